theorem dX2_init_0 : decode cX2_init 0 = .ok (.aload_n 0, 1) := by decide +kernel
theorem dX2_init_1 : decode cX2_init 1 = .ok (.invokespecial 3, 3) := by decide +kernel
theorem dX2_init_4 : decode cX2_init 4 = .ok (.aload_n 0, 1) := by decide +kernel
theorem dX2_init_5 : decode cX2_init 5 = .ok (.bipush 9, 2) := by decide +kernel
theorem dX2_init_7 : decode cX2_init 7 = .ok (.anewarray 9, 3) := by decide +kernel
theorem dX2_init_10 : decode cX2_init 10 = .ok (.putfield 11, 3) := by decide +kernel
theorem dX2_init_13 : decode cX2_init 13 = .ok (.iconst 0, 1) := by decide +kernel
theorem dX2_init_14 : decode cX2_init 14 = .ok (.istore_n 1, 1) := by decide +kernel
theorem dX2_init_15 : decode cX2_init 15 = .ok (.iload_n 1, 1) := by decide +kernel
theorem dX2_init_16 : decode cX2_init 16 = .ok (.bipush 9, 2) := by decide +kernel
theorem dX2_init_18 : decode cX2_init 18 = .ok (.if_icmp .ge 22, 3) := by decide +kernel
theorem dX2_init_21 : decode cX2_init 21 = .ok (.aload_n 0, 1) := by decide +kernel
theorem dX2_init_22 : decode cX2_init 22 = .ok (.getfield 11, 3) := by decide +kernel
theorem dX2_init_25 : decode cX2_init 25 = .ok (.iload_n 1, 1) := by decide +kernel
theorem dX2_init_26 : decode cX2_init 26 = .ok (.new 9, 3) := by decide +kernel
theorem dX2_init_29 : decode cX2_init 29 = .ok (.dup, 1) := by decide +kernel
theorem dX2_init_30 : decode cX2_init 30 = .ok (.invokespecial 15, 3) := by decide +kernel
theorem dX2_init_33 : decode cX2_init 33 = .ok (.aastore, 1) := by decide +kernel
theorem dX2_init_34 : decode cX2_init 34 = .ok (.iinc 1 1, 3) := by decide +kernel
theorem dX2_init_37 : decode cX2_init 37 = .ok (.goto (-22), 3) := by decide +kernel
theorem dX2_init_40 : decode cX2_init 40 = .ok (.return_, 1) := by decide +kernel
theorem dX2_mark_0 : decode cX2_mark 0 = .ok (.aload_n 0, 1) := by decide +kernel
theorem dX2_mark_1 : decode cX2_mark 1 = .ok (.invokevirtual 16, 3) := by decide +kernel
theorem dX2_mark_4 : decode cX2_mark 4 = .ok (.astore_n 2, 1) := by decide +kernel
theorem dX2_mark_5 : decode cX2_mark 5 = .ok (.aload_n 2, 1) := by decide +kernel
theorem dX2_mark_6 : decode cX2_mark 6 = .ok (.ifnull 8, 3) := by decide +kernel
theorem dX2_mark_9 : decode cX2_mark 9 = .ok (.aload_n 2, 1) := by decide +kernel
theorem dX2_mark_10 : decode cX2_mark 10 = .ok (.aload_n 1, 1) := by decide +kernel
theorem dX2_mark_11 : decode cX2_mark 11 = .ok (.invokevirtual 20, 3) := by decide +kernel
theorem dX2_mark_14 : decode cX2_mark 14 = .ok (.return_, 1) := by decide +kernel
theorem dX2_keep_0 : decode cX2_keep 0 = .ok (.aload_n 0, 1) := by decide +kernel
theorem dX2_keep_1 : decode cX2_keep 1 = .ok (.aload_n 0, 1) := by decide +kernel
theorem dX2_keep_2 : decode cX2_keep 2 = .ok (.getfield 24, 3) := by decide +kernel
theorem dX2_keep_5 : decode cX2_keep 5 = .ok (.iconst 1, 1) := by decide +kernel
theorem dX2_keep_6 : decode cX2_keep 6 = .ok (.iadd, 1) := by decide +kernel
theorem dX2_keep_7 : decode cX2_keep 7 = .ok (.bipush 9, 2) := by decide +kernel
theorem dX2_keep_9 : decode cX2_keep 9 = .ok (.if_icmp .ge 12, 3) := by decide +kernel
theorem dX2_keep_12 : decode cX2_keep 12 = .ok (.aload_n 0, 1) := by decide +kernel
theorem dX2_keep_13 : decode cX2_keep 13 = .ok (.getfield 24, 3) := by decide +kernel
theorem dX2_keep_16 : decode cX2_keep 16 = .ok (.iconst 1, 1) := by decide +kernel
theorem dX2_keep_17 : decode cX2_keep 17 = .ok (.iadd, 1) := by decide +kernel
theorem dX2_keep_18 : decode cX2_keep 18 = .ok (.goto 4, 3) := by decide +kernel
theorem dX2_keep_21 : decode cX2_keep 21 = .ok (.iconst 0, 1) := by decide +kernel
theorem dX2_keep_22 : decode cX2_keep 22 = .ok (.putfield 24, 3) := by decide +kernel
theorem dX2_keep_25 : decode cX2_keep 25 = .ok (.aload_n 0, 1) := by decide +kernel
theorem dX2_keep_26 : decode cX2_keep 26 = .ok (.aload_n 0, 1) := by decide +kernel
theorem dX2_keep_27 : decode cX2_keep 27 = .ok (.getfield 28, 3) := by decide +kernel
theorem dX2_keep_30 : decode cX2_keep 30 = .ok (.iconst 1, 1) := by decide +kernel
theorem dX2_keep_31 : decode cX2_keep 31 = .ok (.iadd, 1) := by decide +kernel
theorem dX2_keep_32 : decode cX2_keep 32 = .ok (.bipush 8, 2) := by decide +kernel
theorem dX2_keep_34 : decode cX2_keep 34 = .ok (.invokestatic 31, 3) := by decide +kernel
theorem dX2_keep_37 : decode cX2_keep 37 = .ok (.putfield 28, 3) := by decide +kernel
theorem dX2_keep_40 : decode cX2_keep 40 = .ok (.return_, 1) := by decide +kernel
theorem dX2_takeBack_0 : decode cX2_takeBack 0 = .ok (.aload_n 0, 1) := by decide +kernel
theorem dX2_takeBack_1 : decode cX2_takeBack 1 = .ok (.invokevirtual 16, 3) := by decide +kernel
theorem dX2_takeBack_4 : decode cX2_takeBack 4 = .ok (.astore_n 2, 1) := by decide +kernel
theorem dX2_takeBack_5 : decode cX2_takeBack 5 = .ok (.aload_n 2, 1) := by decide +kernel
theorem dX2_takeBack_6 : decode cX2_takeBack 6 = .ok (.ifnull 8, 3) := by decide +kernel
theorem dX2_takeBack_9 : decode cX2_takeBack 9 = .ok (.aload_n 1, 1) := by decide +kernel
theorem dX2_takeBack_10 : decode cX2_takeBack 10 = .ok (.aload_n 2, 1) := by decide +kernel
theorem dX2_takeBack_11 : decode cX2_takeBack 11 = .ok (.invokevirtual 20, 3) := by decide +kernel
theorem dX2_takeBack_14 : decode cX2_takeBack 14 = .ok (.return_, 1) := by decide +kernel
theorem dX2_goBack_0 : decode cX2_goBack 0 = .ok (.aload_n 0, 1) := by decide +kernel
theorem dX2_goBack_1 : decode cX2_goBack 1 = .ok (.aload_n 0, 1) := by decide +kernel
theorem dX2_goBack_2 : decode cX2_goBack 2 = .ok (.getfield 24, 3) := by decide +kernel
theorem dX2_goBack_5 : decode cX2_goBack 5 = .ok (.ifCond .le 12, 3) := by decide +kernel
theorem dX2_goBack_8 : decode cX2_goBack 8 = .ok (.aload_n 0, 1) := by decide +kernel
theorem dX2_goBack_9 : decode cX2_goBack 9 = .ok (.getfield 24, 3) := by decide +kernel
theorem dX2_goBack_12 : decode cX2_goBack 12 = .ok (.iconst 1, 1) := by decide +kernel
theorem dX2_goBack_13 : decode cX2_goBack 13 = .ok (.isub, 1) := by decide +kernel
theorem dX2_goBack_14 : decode cX2_goBack 14 = .ok (.goto 5, 3) := by decide +kernel
theorem dX2_goBack_17 : decode cX2_goBack 17 = .ok (.bipush 8, 2) := by decide +kernel
theorem dX2_goBack_19 : decode cX2_goBack 19 = .ok (.putfield 24, 3) := by decide +kernel
theorem dX2_goBack_22 : decode cX2_goBack 22 = .ok (.aload_n 0, 1) := by decide +kernel
theorem dX2_goBack_23 : decode cX2_goBack 23 = .ok (.dup, 1) := by decide +kernel
theorem dX2_goBack_24 : decode cX2_goBack 24 = .ok (.getfield 28, 3) := by decide +kernel
theorem dX2_goBack_27 : decode cX2_goBack 27 = .ok (.iconst 1, 1) := by decide +kernel
theorem dX2_goBack_28 : decode cX2_goBack 28 = .ok (.isub, 1) := by decide +kernel
theorem dX2_goBack_29 : decode cX2_goBack 29 = .ok (.putfield 28, 3) := by decide +kernel
theorem dX2_goBack_32 : decode cX2_goBack 32 = .ok (.aload_n 0, 1) := by decide +kernel
theorem dX2_goBack_33 : decode cX2_goBack 33 = .ok (.aload_n 1, 1) := by decide +kernel
theorem dX2_goBack_34 : decode cX2_goBack 34 = .ok (.invokevirtual 37, 3) := by decide +kernel
theorem dX2_goBack_37 : decode cX2_goBack 37 = .ok (.return_, 1) := by decide +kernel
theorem dX2_nextPlace_0 : decode cX2_nextPlace 0 = .ok (.aload_n 0, 1) := by decide +kernel
theorem dX2_nextPlace_1 : decode cX2_nextPlace 1 = .ok (.getfield 24, 3) := by decide +kernel
theorem dX2_nextPlace_4 : decode cX2_nextPlace 4 = .ok (.ifCond .lt 27, 3) := by decide +kernel
theorem dX2_nextPlace_7 : decode cX2_nextPlace 7 = .ok (.aload_n 0, 1) := by decide +kernel
theorem dX2_nextPlace_8 : decode cX2_nextPlace 8 = .ok (.getfield 24, 3) := by decide +kernel
theorem dX2_nextPlace_11 : decode cX2_nextPlace 11 = .ok (.aload_n 0, 1) := by decide +kernel
theorem dX2_nextPlace_12 : decode cX2_nextPlace 12 = .ok (.getfield 11, 3) := by decide +kernel
theorem dX2_nextPlace_15 : decode cX2_nextPlace 15 = .ok (.arraylength, 1) := by decide +kernel
theorem dX2_nextPlace_16 : decode cX2_nextPlace 16 = .ok (.if_icmp .ge 15, 3) := by decide +kernel
theorem dX2_nextPlace_19 : decode cX2_nextPlace 19 = .ok (.aload_n 0, 1) := by decide +kernel
theorem dX2_nextPlace_20 : decode cX2_nextPlace 20 = .ok (.getfield 11, 3) := by decide +kernel
theorem dX2_nextPlace_23 : decode cX2_nextPlace 23 = .ok (.aload_n 0, 1) := by decide +kernel
theorem dX2_nextPlace_24 : decode cX2_nextPlace 24 = .ok (.getfield 24, 3) := by decide +kernel
theorem dX2_nextPlace_27 : decode cX2_nextPlace 27 = .ok (.aaload, 1) := by decide +kernel
theorem dX2_nextPlace_28 : decode cX2_nextPlace 28 = .ok (.goto 4, 3) := by decide +kernel
theorem dX2_nextPlace_31 : decode cX2_nextPlace 31 = .ok (.aconst_null, 1) := by decide +kernel
theorem dX2_nextPlace_32 : decode cX2_nextPlace 32 = .ok (.areturn, 1) := by decide +kernel
theorem dX3_init_0 : decode cX3_init 0 = .ok (.aload_n 0, 1) := by decide +kernel
theorem dX3_init_1 : decode cX3_init 1 = .ok (.invokespecial 3, 3) := by decide +kernel
theorem dX3_init_4 : decode cX3_init 4 = .ok (.aload_n 0, 1) := by decide +kernel
theorem dX3_init_5 : decode cX3_init 5 = .ok (.sipush 600, 3) := by decide +kernel
theorem dX3_init_8 : decode cX3_init 8 = .ok (.newarray .int, 2) := by decide +kernel
theorem dX3_init_10 : decode cX3_init 10 = .ok (.putfield 11, 3) := by decide +kernel
theorem dX3_init_13 : decode cX3_init 13 = .ok (.return_, 1) := by decide +kernel
theorem dX3_addFourBytes_0 : decode cX3_addFourBytes 0 = .ok (.bipush 24, 2) := by decide +kernel
theorem dX3_addFourBytes_2 : decode cX3_addFourBytes 2 = .ok (.istore_n 2, 1) := by decide +kernel
theorem dX3_addFourBytes_3 : decode cX3_addFourBytes 3 = .ok (.iload_n 2, 1) := by decide +kernel
theorem dX3_addFourBytes_4 : decode cX3_addFourBytes 4 = .ok (.ifCond .lt 54, 3) := by decide +kernel
theorem dX3_addFourBytes_7 : decode cX3_addFourBytes 7 = .ok (.aload_n 0, 1) := by decide +kernel
theorem dX3_addFourBytes_8 : decode cX3_addFourBytes 8 = .ok (.getfield 15, 3) := by decide +kernel
theorem dX3_addFourBytes_11 : decode cX3_addFourBytes 11 = .ok (.ifCond .lt 41, 3) := by decide +kernel
theorem dX3_addFourBytes_14 : decode cX3_addFourBytes 14 = .ok (.aload_n 0, 1) := by decide +kernel
theorem dX3_addFourBytes_15 : decode cX3_addFourBytes 15 = .ok (.getfield 15, 3) := by decide +kernel
theorem dX3_addFourBytes_18 : decode cX3_addFourBytes 18 = .ok (.aload_n 0, 1) := by decide +kernel
theorem dX3_addFourBytes_19 : decode cX3_addFourBytes 19 = .ok (.getfield 11, 3) := by decide +kernel
theorem dX3_addFourBytes_22 : decode cX3_addFourBytes 22 = .ok (.arraylength, 1) := by decide +kernel
theorem dX3_addFourBytes_23 : decode cX3_addFourBytes 23 = .ok (.if_icmp .ge 29, 3) := by decide +kernel
theorem dX3_addFourBytes_26 : decode cX3_addFourBytes 26 = .ok (.aload_n 0, 1) := by decide +kernel
theorem dX3_addFourBytes_27 : decode cX3_addFourBytes 27 = .ok (.getfield 11, 3) := by decide +kernel
theorem dX3_addFourBytes_30 : decode cX3_addFourBytes 30 = .ok (.aload_n 0, 1) := by decide +kernel
theorem dX3_addFourBytes_31 : decode cX3_addFourBytes 31 = .ok (.getfield 15, 3) := by decide +kernel
theorem dX3_addFourBytes_34 : decode cX3_addFourBytes 34 = .ok (.iload_n 1, 1) := by decide +kernel
theorem dX3_addFourBytes_35 : decode cX3_addFourBytes 35 = .ok (.iload_n 2, 1) := by decide +kernel
theorem dX3_addFourBytes_36 : decode cX3_addFourBytes 36 = .ok (.iushr, 1) := by decide +kernel
theorem dX3_addFourBytes_37 : decode cX3_addFourBytes 37 = .ok (.sipush 255, 3) := by decide +kernel
theorem dX3_addFourBytes_40 : decode cX3_addFourBytes 40 = .ok (.iand, 1) := by decide +kernel
theorem dX3_addFourBytes_41 : decode cX3_addFourBytes 41 = .ok (.iastore, 1) := by decide +kernel
theorem dX3_addFourBytes_42 : decode cX3_addFourBytes 42 = .ok (.aload_n 0, 1) := by decide +kernel
theorem dX3_addFourBytes_43 : decode cX3_addFourBytes 43 = .ok (.dup, 1) := by decide +kernel
theorem dX3_addFourBytes_44 : decode cX3_addFourBytes 44 = .ok (.getfield 15, 3) := by decide +kernel
theorem dX3_addFourBytes_47 : decode cX3_addFourBytes 47 = .ok (.iconst 1, 1) := by decide +kernel
theorem dX3_addFourBytes_48 : decode cX3_addFourBytes 48 = .ok (.iadd, 1) := by decide +kernel
theorem dX3_addFourBytes_49 : decode cX3_addFourBytes 49 = .ok (.putfield 15, 3) := by decide +kernel
theorem dX3_addFourBytes_52 : decode cX3_addFourBytes 52 = .ok (.iinc 2 (-8), 3) := by decide +kernel
theorem dX3_addFourBytes_55 : decode cX3_addFourBytes 55 = .ok (.goto (-52), 3) := by decide +kernel
theorem dX3_addFourBytes_58 : decode cX3_addFourBytes 58 = .ok (.return_, 1) := by decide +kernel
theorem dX3_nextToken_0 : decode cX3_nextToken 0 = .ok (.aload_n 0, 1) := by decide +kernel
theorem dX3_nextToken_1 : decode cX3_nextToken 1 = .ok (.getfield 19, 3) := by decide +kernel
theorem dX3_nextToken_4 : decode cX3_nextToken 4 = .ok (.aload_n 0, 1) := by decide +kernel
theorem dX3_nextToken_5 : decode cX3_nextToken 5 = .ok (.getfield 15, 3) := by decide +kernel
theorem dX3_nextToken_8 : decode cX3_nextToken 8 = .ok (.if_icmp .ge 30, 3) := by decide +kernel
theorem dX3_nextToken_11 : decode cX3_nextToken 11 = .ok (.aload_n 0, 1) := by decide +kernel
theorem dX3_nextToken_12 : decode cX3_nextToken 12 = .ok (.aload_n 0, 1) := by decide +kernel
theorem dX3_nextToken_13 : decode cX3_nextToken 13 = .ok (.getfield 19, 3) := by decide +kernel
theorem dX3_nextToken_16 : decode cX3_nextToken 16 = .ok (.invokevirtual 22, 3) := by decide +kernel
theorem dX3_nextToken_19 : decode cX3_nextToken 19 = .ok (.invokestatic 26, 3) := by decide +kernel
theorem dX3_nextToken_22 : decode cX3_nextToken 22 = .ok (.ifCond .eq 16, 3) := by decide +kernel
theorem dX3_nextToken_25 : decode cX3_nextToken 25 = .ok (.aload_n 0, 1) := by decide +kernel
theorem dX3_nextToken_26 : decode cX3_nextToken 26 = .ok (.dup, 1) := by decide +kernel
theorem dX3_nextToken_27 : decode cX3_nextToken 27 = .ok (.getfield 19, 3) := by decide +kernel
theorem dX3_nextToken_30 : decode cX3_nextToken 30 = .ok (.iconst 1, 1) := by decide +kernel
theorem dX3_nextToken_31 : decode cX3_nextToken 31 = .ok (.iadd, 1) := by decide +kernel
theorem dX3_nextToken_32 : decode cX3_nextToken 32 = .ok (.putfield 19, 3) := by decide +kernel
theorem dX3_nextToken_35 : decode cX3_nextToken 35 = .ok (.goto (-35), 3) := by decide +kernel
theorem dX3_nextToken_38 : decode cX3_nextToken 38 = .ok (.aload_n 0, 1) := by decide +kernel
theorem dX3_nextToken_39 : decode cX3_nextToken 39 = .ok (.aload_n 0, 1) := by decide +kernel
theorem dX3_nextToken_40 : decode cX3_nextToken 40 = .ok (.getfield 19, 3) := by decide +kernel
theorem dX3_nextToken_43 : decode cX3_nextToken 43 = .ok (.putfield 30, 3) := by decide +kernel
theorem dX3_nextToken_46 : decode cX3_nextToken 46 = .ok (.aload_n 0, 1) := by decide +kernel
theorem dX3_nextToken_47 : decode cX3_nextToken 47 = .ok (.aload_n 0, 1) := by decide +kernel
theorem dX3_nextToken_48 : decode cX3_nextToken 48 = .ok (.getfield 19, 3) := by decide +kernel
theorem dX3_nextToken_51 : decode cX3_nextToken 51 = .ok (.invokevirtual 22, 3) := by decide +kernel
theorem dX3_nextToken_54 : decode cX3_nextToken 54 = .ok (.istore_n 1, 1) := by decide +kernel
theorem dX3_nextToken_55 : decode cX3_nextToken 55 = .ok (.iload_n 1, 1) := by decide +kernel
theorem dX3_nextToken_56 : decode cX3_nextToken 56 = .ok (.iconst (-1), 1) := by decide +kernel
theorem dX3_nextToken_57 : decode cX3_nextToken 57 = .ok (.if_icmp .ne 11, 3) := by decide +kernel
theorem dX3_nextToken_60 : decode cX3_nextToken 60 = .ok (.aload_n 0, 1) := by decide +kernel
theorem dX3_nextToken_61 : decode cX3_nextToken 61 = .ok (.iconst 0, 1) := by decide +kernel
theorem dX3_nextToken_62 : decode cX3_nextToken 62 = .ok (.putfield 33, 3) := by decide +kernel
theorem dX3_nextToken_65 : decode cX3_nextToken 65 = .ok (.goto 77, 3) := by decide +kernel
theorem dX3_nextToken_68 : decode cX3_nextToken 68 = .ok (.iload_n 1, 1) := by decide +kernel
theorem dX3_nextToken_69 : decode cX3_nextToken 69 = .ok (.invokestatic 36, 3) := by decide +kernel
theorem dX3_nextToken_72 : decode cX3_nextToken 72 = .ok (.ifCond .eq 10, 3) := by decide +kernel
theorem dX3_nextToken_75 : decode cX3_nextToken 75 = .ok (.aload_n 0, 1) := by decide +kernel
theorem dX3_nextToken_76 : decode cX3_nextToken 76 = .ok (.invokevirtual 39, 3) := by decide +kernel
theorem dX3_nextToken_79 : decode cX3_nextToken 79 = .ok (.goto 63, 3) := by decide +kernel
theorem dX3_nextToken_82 : decode cX3_nextToken 82 = .ok (.iload_n 1, 1) := by decide +kernel
theorem dX3_nextToken_83 : decode cX3_nextToken 83 = .ok (.invokestatic 42, 3) := by decide +kernel
theorem dX3_nextToken_86 : decode cX3_nextToken 86 = .ok (.ifCond .eq 10, 3) := by decide +kernel
theorem dX3_nextToken_89 : decode cX3_nextToken 89 = .ok (.aload_n 0, 1) := by decide +kernel
theorem dX3_nextToken_90 : decode cX3_nextToken 90 = .ok (.invokevirtual 45, 3) := by decide +kernel
theorem dX3_nextToken_93 : decode cX3_nextToken 93 = .ok (.goto 49, 3) := by decide +kernel
theorem dX3_nextToken_96 : decode cX3_nextToken 96 = .ok (.aload_n 0, 1) := by decide +kernel
theorem dX3_nextToken_97 : decode cX3_nextToken 97 = .ok (.dup, 1) := by decide +kernel
theorem dX3_nextToken_98 : decode cX3_nextToken 98 = .ok (.getfield 19, 3) := by decide +kernel
theorem dX3_nextToken_101 : decode cX3_nextToken 101 = .ok (.iconst 1, 1) := by decide +kernel
theorem dX3_nextToken_102 : decode cX3_nextToken 102 = .ok (.iadd, 1) := by decide +kernel
theorem dX3_nextToken_103 : decode cX3_nextToken 103 = .ok (.putfield 19, 3) := by decide +kernel
theorem dX3_nextToken_106 : decode cX3_nextToken 106 = .ok (.aload_n 0, 1) := by decide +kernel
theorem dX3_nextToken_107 : decode cX3_nextToken 107 = .ok (.iload_n 1, 1) := by decide +kernel
theorem dX3_nextToken_108 : decode cX3_nextToken 108 = .ok (.bipush 40, 2) := by decide +kernel
theorem dX3_nextToken_110 : decode cX3_nextToken 110 = .ok (.if_icmp .ne 7, 3) := by decide +kernel
theorem dX3_nextToken_113 : decode cX3_nextToken 113 = .ok (.iconst 3, 1) := by decide +kernel
theorem dX3_nextToken_114 : decode cX3_nextToken 114 = .ok (.goto 25, 3) := by decide +kernel
theorem dX3_nextToken_117 : decode cX3_nextToken 117 = .ok (.iload_n 1, 1) := by decide +kernel
theorem dX3_nextToken_118 : decode cX3_nextToken 118 = .ok (.bipush 41, 2) := by decide +kernel
theorem dX3_nextToken_120 : decode cX3_nextToken 120 = .ok (.if_icmp .ne 7, 3) := by decide +kernel
theorem dX3_nextToken_123 : decode cX3_nextToken 123 = .ok (.iconst 4, 1) := by decide +kernel
theorem dX3_nextToken_124 : decode cX3_nextToken 124 = .ok (.goto 15, 3) := by decide +kernel
theorem dX3_nextToken_127 : decode cX3_nextToken 127 = .ok (.iload_n 1, 1) := by decide +kernel
theorem dX3_nextToken_128 : decode cX3_nextToken 128 = .ok (.bipush 59, 2) := by decide +kernel
theorem dX3_nextToken_130 : decode cX3_nextToken 130 = .ok (.if_icmp .ne 7, 3) := by decide +kernel
theorem dX3_nextToken_133 : decode cX3_nextToken 133 = .ok (.iconst 5, 1) := by decide +kernel
theorem dX3_nextToken_134 : decode cX3_nextToken 134 = .ok (.goto 5, 3) := by decide +kernel
theorem dX3_nextToken_137 : decode cX3_nextToken 137 = .ok (.bipush 6, 2) := by decide +kernel
theorem dX3_nextToken_139 : decode cX3_nextToken 139 = .ok (.putfield 33, 3) := by decide +kernel
theorem dX3_nextToken_142 : decode cX3_nextToken 142 = .ok (.return_, 1) := by decide +kernel
theorem dX3_isWord_0 : decode cX3_isWord 0 = .ok (.aload_n 0, 1) := by decide +kernel
theorem dX3_isWord_1 : decode cX3_isWord 1 = .ok (.getfield 33, 3) := by decide +kernel
theorem dX3_isWord_4 : decode cX3_isWord 4 = .ok (.iconst 1, 1) := by decide +kernel
theorem dX3_isWord_5 : decode cX3_isWord 5 = .ok (.if_icmp .ne 19, 3) := by decide +kernel
theorem dX3_isWord_8 : decode cX3_isWord 8 = .ok (.aload_n 0, 1) := by decide +kernel
theorem dX3_isWord_9 : decode cX3_isWord 9 = .ok (.getfield 19, 3) := by decide +kernel
theorem dX3_isWord_12 : decode cX3_isWord 12 = .ok (.aload_n 0, 1) := by decide +kernel
theorem dX3_isWord_13 : decode cX3_isWord 13 = .ok (.getfield 30, 3) := by decide +kernel
theorem dX3_isWord_16 : decode cX3_isWord 16 = .ok (.isub, 1) := by decide +kernel
theorem dX3_isWord_17 : decode cX3_isWord 17 = .ok (.aload_n 1, 1) := by decide +kernel
theorem dX3_isWord_18 : decode cX3_isWord 18 = .ok (.invokevirtual 48, 3) := by decide +kernel
theorem dX3_isWord_21 : decode cX3_isWord 21 = .ok (.if_icmp .eq 5, 3) := by decide +kernel
theorem dX3_isWord_24 : decode cX3_isWord 24 = .ok (.iconst 0, 1) := by decide +kernel
theorem dX3_isWord_25 : decode cX3_isWord 25 = .ok (.ireturn, 1) := by decide +kernel
theorem dX3_isWord_26 : decode cX3_isWord 26 = .ok (.iconst 0, 1) := by decide +kernel
theorem dX3_isWord_27 : decode cX3_isWord 27 = .ok (.istore_n 2, 1) := by decide +kernel
theorem dX3_isWord_28 : decode cX3_isWord 28 = .ok (.iload_n 2, 1) := by decide +kernel
theorem dX3_isWord_29 : decode cX3_isWord 29 = .ok (.aload_n 1, 1) := by decide +kernel
theorem dX3_isWord_30 : decode cX3_isWord 30 = .ok (.invokevirtual 48, 3) := by decide +kernel
theorem dX3_isWord_33 : decode cX3_isWord 33 = .ok (.if_icmp .ge 29, 3) := by decide +kernel
theorem dX3_isWord_36 : decode cX3_isWord 36 = .ok (.aload_n 0, 1) := by decide +kernel
theorem dX3_isWord_37 : decode cX3_isWord 37 = .ok (.aload_n 0, 1) := by decide +kernel
theorem dX3_isWord_38 : decode cX3_isWord 38 = .ok (.getfield 30, 3) := by decide +kernel
theorem dX3_isWord_41 : decode cX3_isWord 41 = .ok (.iload_n 2, 1) := by decide +kernel
theorem dX3_isWord_42 : decode cX3_isWord 42 = .ok (.iadd, 1) := by decide +kernel
theorem dX3_isWord_43 : decode cX3_isWord 43 = .ok (.invokevirtual 22, 3) := by decide +kernel
theorem dX3_isWord_46 : decode cX3_isWord 46 = .ok (.aload_n 1, 1) := by decide +kernel
theorem dX3_isWord_47 : decode cX3_isWord 47 = .ok (.iload_n 2, 1) := by decide +kernel
theorem dX3_isWord_48 : decode cX3_isWord 48 = .ok (.invokevirtual 53, 3) := by decide +kernel
theorem dX3_isWord_51 : decode cX3_isWord 51 = .ok (.if_icmp .eq 5, 3) := by decide +kernel
theorem dX3_isWord_54 : decode cX3_isWord 54 = .ok (.iconst 0, 1) := by decide +kernel
theorem dX3_isWord_55 : decode cX3_isWord 55 = .ok (.ireturn, 1) := by decide +kernel
theorem dX3_isWord_56 : decode cX3_isWord 56 = .ok (.iinc 2 1, 3) := by decide +kernel
theorem dX3_isWord_59 : decode cX3_isWord 59 = .ok (.goto (-31), 3) := by decide +kernel
theorem dX3_isWord_62 : decode cX3_isWord 62 = .ok (.iconst 1, 1) := by decide +kernel
theorem dX3_isWord_63 : decode cX3_isWord 63 = .ok (.ireturn, 1) := by decide +kernel
theorem dX3_passWord_0 : decode cX3_passWord 0 = .ok (.aload_n 0, 1) := by decide +kernel
theorem dX3_passWord_1 : decode cX3_passWord 1 = .ok (.iconst 1, 1) := by decide +kernel
theorem dX3_passWord_2 : decode cX3_passWord 2 = .ok (.putfield 33, 3) := by decide +kernel
theorem dX3_passWord_5 : decode cX3_passWord 5 = .ok (.aload_n 0, 1) := by decide +kernel
theorem dX3_passWord_6 : decode cX3_passWord 6 = .ok (.getfield 19, 3) := by decide +kernel
theorem dX3_passWord_9 : decode cX3_passWord 9 = .ok (.aload_n 0, 1) := by decide +kernel
theorem dX3_passWord_10 : decode cX3_passWord 10 = .ok (.getfield 15, 3) := by decide +kernel
theorem dX3_passWord_13 : decode cX3_passWord 13 = .ok (.if_icmp .ge 30, 3) := by decide +kernel
theorem dX3_passWord_16 : decode cX3_passWord 16 = .ok (.aload_n 0, 1) := by decide +kernel
theorem dX3_passWord_17 : decode cX3_passWord 17 = .ok (.aload_n 0, 1) := by decide +kernel
theorem dX3_passWord_18 : decode cX3_passWord 18 = .ok (.getfield 19, 3) := by decide +kernel
theorem dX3_passWord_21 : decode cX3_passWord 21 = .ok (.invokevirtual 22, 3) := by decide +kernel
theorem dX3_passWord_24 : decode cX3_passWord 24 = .ok (.invokestatic 36, 3) := by decide +kernel
theorem dX3_passWord_27 : decode cX3_passWord 27 = .ok (.ifCond .eq 16, 3) := by decide +kernel
theorem dX3_passWord_30 : decode cX3_passWord 30 = .ok (.aload_n 0, 1) := by decide +kernel
theorem dX3_passWord_31 : decode cX3_passWord 31 = .ok (.dup, 1) := by decide +kernel
theorem dX3_passWord_32 : decode cX3_passWord 32 = .ok (.getfield 19, 3) := by decide +kernel
theorem dX3_passWord_35 : decode cX3_passWord 35 = .ok (.iconst 1, 1) := by decide +kernel
theorem dX3_passWord_36 : decode cX3_passWord 36 = .ok (.iadd, 1) := by decide +kernel
theorem dX3_passWord_37 : decode cX3_passWord 37 = .ok (.putfield 19, 3) := by decide +kernel
theorem dX3_passWord_40 : decode cX3_passWord 40 = .ok (.goto (-35), 3) := by decide +kernel
theorem dX3_passWord_43 : decode cX3_passWord 43 = .ok (.return_, 1) := by decide +kernel
theorem dX3_passNumber_0 : decode cX3_passNumber 0 = .ok (.aload_n 0, 1) := by decide +kernel
theorem dX3_passNumber_1 : decode cX3_passNumber 1 = .ok (.iconst 0, 1) := by decide +kernel
theorem dX3_passNumber_2 : decode cX3_passNumber 2 = .ok (.putfield 57, 3) := by decide +kernel
theorem dX3_passNumber_5 : decode cX3_passNumber 5 = .ok (.aload_n 0, 1) := by decide +kernel
theorem dX3_passNumber_6 : decode cX3_passNumber 6 = .ok (.getfield 19, 3) := by decide +kernel
theorem dX3_passNumber_9 : decode cX3_passNumber 9 = .ok (.aload_n 0, 1) := by decide +kernel
theorem dX3_passNumber_10 : decode cX3_passNumber 10 = .ok (.getfield 15, 3) := by decide +kernel
theorem dX3_passNumber_13 : decode cX3_passNumber 13 = .ok (.if_icmp .ge 53, 3) := by decide +kernel
theorem dX3_passNumber_16 : decode cX3_passNumber 16 = .ok (.aload_n 0, 1) := by decide +kernel
theorem dX3_passNumber_17 : decode cX3_passNumber 17 = .ok (.aload_n 0, 1) := by decide +kernel
theorem dX3_passNumber_18 : decode cX3_passNumber 18 = .ok (.getfield 19, 3) := by decide +kernel
theorem dX3_passNumber_21 : decode cX3_passNumber 21 = .ok (.invokevirtual 22, 3) := by decide +kernel
theorem dX3_passNumber_24 : decode cX3_passNumber 24 = .ok (.invokestatic 42, 3) := by decide +kernel
theorem dX3_passNumber_27 : decode cX3_passNumber 27 = .ok (.ifCond .eq 39, 3) := by decide +kernel
theorem dX3_passNumber_30 : decode cX3_passNumber 30 = .ok (.aload_n 0, 1) := by decide +kernel
theorem dX3_passNumber_31 : decode cX3_passNumber 31 = .ok (.aload_n 0, 1) := by decide +kernel
theorem dX3_passNumber_32 : decode cX3_passNumber 32 = .ok (.getfield 57, 3) := by decide +kernel
theorem dX3_passNumber_35 : decode cX3_passNumber 35 = .ok (.bipush 10, 2) := by decide +kernel
theorem dX3_passNumber_37 : decode cX3_passNumber 37 = .ok (.imul, 1) := by decide +kernel
theorem dX3_passNumber_38 : decode cX3_passNumber 38 = .ok (.aload_n 0, 1) := by decide +kernel
theorem dX3_passNumber_39 : decode cX3_passNumber 39 = .ok (.aload_n 0, 1) := by decide +kernel
theorem dX3_passNumber_40 : decode cX3_passNumber 40 = .ok (.getfield 19, 3) := by decide +kernel
theorem dX3_passNumber_43 : decode cX3_passNumber 43 = .ok (.invokevirtual 22, 3) := by decide +kernel
theorem dX3_passNumber_46 : decode cX3_passNumber 46 = .ok (.bipush 48, 2) := by decide +kernel
theorem dX3_passNumber_48 : decode cX3_passNumber 48 = .ok (.isub, 1) := by decide +kernel
theorem dX3_passNumber_49 : decode cX3_passNumber 49 = .ok (.iadd, 1) := by decide +kernel
theorem dX3_passNumber_50 : decode cX3_passNumber 50 = .ok (.putfield 57, 3) := by decide +kernel
theorem dX3_passNumber_53 : decode cX3_passNumber 53 = .ok (.aload_n 0, 1) := by decide +kernel
theorem dX3_passNumber_54 : decode cX3_passNumber 54 = .ok (.dup, 1) := by decide +kernel
theorem dX3_passNumber_55 : decode cX3_passNumber 55 = .ok (.getfield 19, 3) := by decide +kernel
theorem dX3_passNumber_58 : decode cX3_passNumber 58 = .ok (.iconst 1, 1) := by decide +kernel
theorem dX3_passNumber_59 : decode cX3_passNumber 59 = .ok (.iadd, 1) := by decide +kernel
theorem dX3_passNumber_60 : decode cX3_passNumber 60 = .ok (.putfield 19, 3) := by decide +kernel
theorem dX3_passNumber_63 : decode cX3_passNumber 63 = .ok (.goto (-58), 3) := by decide +kernel
theorem dX3_passNumber_66 : decode cX3_passNumber 66 = .ok (.aload_n 0, 1) := by decide +kernel
theorem dX3_passNumber_67 : decode cX3_passNumber 67 = .ok (.aload_n 0, 1) := by decide +kernel
theorem dX3_passNumber_68 : decode cX3_passNumber 68 = .ok (.getfield 19, 3) := by decide +kernel
theorem dX3_passNumber_71 : decode cX3_passNumber 71 = .ok (.aload_n 0, 1) := by decide +kernel
theorem dX3_passNumber_72 : decode cX3_passNumber 72 = .ok (.getfield 30, 3) := by decide +kernel
theorem dX3_passNumber_75 : decode cX3_passNumber 75 = .ok (.isub, 1) := by decide +kernel
theorem dX3_passNumber_76 : decode cX3_passNumber 76 = .ok (.iconst 4, 1) := by decide +kernel
theorem dX3_passNumber_77 : decode cX3_passNumber 77 = .ok (.if_icmp .le 8, 3) := by decide +kernel
theorem dX3_passNumber_80 : decode cX3_passNumber 80 = .ok (.bipush 6, 2) := by decide +kernel
theorem dX3_passNumber_82 : decode cX3_passNumber 82 = .ok (.goto 4, 3) := by decide +kernel
theorem dX3_passNumber_85 : decode cX3_passNumber 85 = .ok (.iconst 2, 1) := by decide +kernel
theorem dX3_passNumber_86 : decode cX3_passNumber 86 = .ok (.putfield 33, 3) := by decide +kernel
theorem dX3_passNumber_89 : decode cX3_passNumber 89 = .ok (.return_, 1) := by decide +kernel
theorem dX3_byteAt_0 : decode cX3_byteAt 0 = .ok (.iload_n 1, 1) := by decide +kernel
theorem dX3_byteAt_1 : decode cX3_byteAt 1 = .ok (.ifCond .lt 29, 3) := by decide +kernel
theorem dX3_byteAt_4 : decode cX3_byteAt 4 = .ok (.iload_n 1, 1) := by decide +kernel
theorem dX3_byteAt_5 : decode cX3_byteAt 5 = .ok (.aload_n 0, 1) := by decide +kernel
theorem dX3_byteAt_6 : decode cX3_byteAt 6 = .ok (.getfield 15, 3) := by decide +kernel
theorem dX3_byteAt_9 : decode cX3_byteAt 9 = .ok (.if_icmp .ge 21, 3) := by decide +kernel
theorem dX3_byteAt_12 : decode cX3_byteAt 12 = .ok (.iload_n 1, 1) := by decide +kernel
theorem dX3_byteAt_13 : decode cX3_byteAt 13 = .ok (.aload_n 0, 1) := by decide +kernel
theorem dX3_byteAt_14 : decode cX3_byteAt 14 = .ok (.getfield 11, 3) := by decide +kernel
theorem dX3_byteAt_17 : decode cX3_byteAt 17 = .ok (.arraylength, 1) := by decide +kernel
theorem dX3_byteAt_18 : decode cX3_byteAt 18 = .ok (.if_icmp .ge 12, 3) := by decide +kernel
theorem dX3_byteAt_21 : decode cX3_byteAt 21 = .ok (.aload_n 0, 1) := by decide +kernel
theorem dX3_byteAt_22 : decode cX3_byteAt 22 = .ok (.getfield 11, 3) := by decide +kernel
theorem dX3_byteAt_25 : decode cX3_byteAt 25 = .ok (.iload_n 1, 1) := by decide +kernel
theorem dX3_byteAt_26 : decode cX3_byteAt 26 = .ok (.iaload, 1) := by decide +kernel
theorem dX3_byteAt_27 : decode cX3_byteAt 27 = .ok (.goto 4, 3) := by decide +kernel
theorem dX3_byteAt_30 : decode cX3_byteAt 30 = .ok (.iconst (-1), 1) := by decide +kernel
theorem dX3_byteAt_31 : decode cX3_byteAt 31 = .ok (.ireturn, 1) := by decide +kernel
theorem dX3_isBlank_0 : decode cX3_isBlank 0 = .ok (.iload_n 0, 1) := by decide +kernel
theorem dX3_isBlank_1 : decode cX3_isBlank 1 = .ok (.bipush 32, 2) := by decide +kernel
theorem dX3_isBlank_3 : decode cX3_isBlank 3 = .ok (.if_icmp .eq 9, 3) := by decide +kernel
theorem dX3_isBlank_6 : decode cX3_isBlank 6 = .ok (.iload_n 0, 1) := by decide +kernel
theorem dX3_isBlank_7 : decode cX3_isBlank 7 = .ok (.bipush 10, 2) := by decide +kernel
theorem dX3_isBlank_9 : decode cX3_isBlank 9 = .ok (.if_icmp .ne 7, 3) := by decide +kernel
theorem dX3_isBlank_12 : decode cX3_isBlank 12 = .ok (.iconst 1, 1) := by decide +kernel
theorem dX3_isBlank_13 : decode cX3_isBlank 13 = .ok (.goto 4, 3) := by decide +kernel
theorem dX3_isBlank_16 : decode cX3_isBlank 16 = .ok (.iconst 0, 1) := by decide +kernel
theorem dX3_isBlank_17 : decode cX3_isBlank 17 = .ok (.ireturn, 1) := by decide +kernel
theorem dX3_isLetter_0 : decode cX3_isLetter 0 = .ok (.iload_n 0, 1) := by decide +kernel
theorem dX3_isLetter_1 : decode cX3_isLetter 1 = .ok (.bipush 97, 2) := by decide +kernel
theorem dX3_isLetter_3 : decode cX3_isLetter 3 = .ok (.if_icmp .lt 13, 3) := by decide +kernel
theorem dX3_isLetter_6 : decode cX3_isLetter 6 = .ok (.iload_n 0, 1) := by decide +kernel
theorem dX3_isLetter_7 : decode cX3_isLetter 7 = .ok (.bipush 122, 2) := by decide +kernel
theorem dX3_isLetter_9 : decode cX3_isLetter 9 = .ok (.if_icmp .gt 7, 3) := by decide +kernel
theorem dX3_isLetter_12 : decode cX3_isLetter 12 = .ok (.iconst 1, 1) := by decide +kernel
theorem dX3_isLetter_13 : decode cX3_isLetter 13 = .ok (.goto 4, 3) := by decide +kernel
theorem dX3_isLetter_16 : decode cX3_isLetter 16 = .ok (.iconst 0, 1) := by decide +kernel
theorem dX3_isLetter_17 : decode cX3_isLetter 17 = .ok (.ireturn, 1) := by decide +kernel
theorem dX3_isDigit_0 : decode cX3_isDigit 0 = .ok (.iload_n 0, 1) := by decide +kernel
theorem dX3_isDigit_1 : decode cX3_isDigit 1 = .ok (.bipush 48, 2) := by decide +kernel
theorem dX3_isDigit_3 : decode cX3_isDigit 3 = .ok (.if_icmp .lt 13, 3) := by decide +kernel
theorem dX3_isDigit_6 : decode cX3_isDigit 6 = .ok (.iload_n 0, 1) := by decide +kernel
theorem dX3_isDigit_7 : decode cX3_isDigit 7 = .ok (.bipush 57, 2) := by decide +kernel
theorem dX3_isDigit_9 : decode cX3_isDigit 9 = .ok (.if_icmp .gt 7, 3) := by decide +kernel
theorem dX3_isDigit_12 : decode cX3_isDigit 12 = .ok (.iconst 1, 1) := by decide +kernel
theorem dX3_isDigit_13 : decode cX3_isDigit 13 = .ok (.goto 4, 3) := by decide +kernel
theorem dX3_isDigit_16 : decode cX3_isDigit 16 = .ok (.iconst 0, 1) := by decide +kernel
theorem dX3_isDigit_17 : decode cX3_isDigit 17 = .ok (.ireturn, 1) := by decide +kernel
theorem dX4_init_0 : decode cX4_init 0 = .ok (.aload_n 0, 1) := by decide +kernel
theorem dX4_init_1 : decode cX4_init 1 = .ok (.invokespecial 3, 3) := by decide +kernel
theorem dX4_init_4 : decode cX4_init 4 = .ok (.aload_n 0, 1) := by decide +kernel
theorem dX4_init_5 : decode cX4_init 5 = .ok (.sipush 448, 3) := by decide +kernel
theorem dX4_init_8 : decode cX4_init 8 = .ok (.newarray .int, 2) := by decide +kernel
theorem dX4_init_10 : decode cX4_init 10 = .ok (.putfield 9, 3) := by decide +kernel
theorem dX4_init_13 : decode cX4_init 13 = .ok (.return_, 1) := by decide +kernel
theorem dX4_begin_0 : decode cX4_begin 0 = .ok (.aload_n 0, 1) := by decide +kernel
theorem dX4_begin_1 : decode cX4_begin 1 = .ok (.iconst 0, 1) := by decide +kernel
theorem dX4_begin_2 : decode cX4_begin 2 = .ok (.putfield 15, 3) := by decide +kernel
theorem dX4_begin_5 : decode cX4_begin 5 = .ok (.return_, 1) := by decide +kernel
theorem dX4_addSign_0 : decode cX4_addSign 0 = .ok (.aload_n 0, 1) := by decide +kernel
theorem dX4_addSign_1 : decode cX4_addSign 1 = .ok (.getfield 15, 3) := by decide +kernel
theorem dX4_addSign_4 : decode cX4_addSign 4 = .ok (.ifCond .lt 35, 3) := by decide +kernel
theorem dX4_addSign_7 : decode cX4_addSign 7 = .ok (.aload_n 0, 1) := by decide +kernel
theorem dX4_addSign_8 : decode cX4_addSign 8 = .ok (.getfield 15, 3) := by decide +kernel
theorem dX4_addSign_11 : decode cX4_addSign 11 = .ok (.aload_n 0, 1) := by decide +kernel
theorem dX4_addSign_12 : decode cX4_addSign 12 = .ok (.getfield 9, 3) := by decide +kernel
theorem dX4_addSign_15 : decode cX4_addSign 15 = .ok (.arraylength, 1) := by decide +kernel
theorem dX4_addSign_16 : decode cX4_addSign 16 = .ok (.if_icmp .ge 23, 3) := by decide +kernel
theorem dX4_addSign_19 : decode cX4_addSign 19 = .ok (.aload_n 0, 1) := by decide +kernel
theorem dX4_addSign_20 : decode cX4_addSign 20 = .ok (.getfield 9, 3) := by decide +kernel
theorem dX4_addSign_23 : decode cX4_addSign 23 = .ok (.aload_n 0, 1) := by decide +kernel
theorem dX4_addSign_24 : decode cX4_addSign 24 = .ok (.getfield 15, 3) := by decide +kernel
theorem dX4_addSign_27 : decode cX4_addSign 27 = .ok (.iload_n 1, 1) := by decide +kernel
theorem dX4_addSign_28 : decode cX4_addSign 28 = .ok (.iastore, 1) := by decide +kernel
theorem dX4_addSign_29 : decode cX4_addSign 29 = .ok (.aload_n 0, 1) := by decide +kernel
theorem dX4_addSign_30 : decode cX4_addSign 30 = .ok (.dup, 1) := by decide +kernel
theorem dX4_addSign_31 : decode cX4_addSign 31 = .ok (.getfield 15, 3) := by decide +kernel
theorem dX4_addSign_34 : decode cX4_addSign 34 = .ok (.iconst 1, 1) := by decide +kernel
theorem dX4_addSign_35 : decode cX4_addSign 35 = .ok (.iadd, 1) := by decide +kernel
theorem dX4_addSign_36 : decode cX4_addSign 36 = .ok (.putfield 15, 3) := by decide +kernel
theorem dX4_addSign_39 : decode cX4_addSign 39 = .ok (.return_, 1) := by decide +kernel
theorem dX4_addNumber_0 : decode cX4_addNumber 0 = .ok (.sipush 1000, 3) := by decide +kernel
theorem dX4_addNumber_3 : decode cX4_addNumber 3 = .ok (.istore_n 2, 1) := by decide +kernel
theorem dX4_addNumber_4 : decode cX4_addNumber 4 = .ok (.iload_n 2, 1) := by decide +kernel
theorem dX4_addNumber_5 : decode cX4_addNumber 5 = .ok (.iconst 1, 1) := by decide +kernel
theorem dX4_addNumber_6 : decode cX4_addNumber 6 = .ok (.if_icmp .lt 34, 3) := by decide +kernel
theorem dX4_addNumber_9 : decode cX4_addNumber 9 = .ok (.iload_n 1, 1) := by decide +kernel
theorem dX4_addNumber_10 : decode cX4_addNumber 10 = .ok (.iload_n 2, 1) := by decide +kernel
theorem dX4_addNumber_11 : decode cX4_addNumber 11 = .ok (.if_icmp .ge 8, 3) := by decide +kernel
theorem dX4_addNumber_14 : decode cX4_addNumber 14 = .ok (.iload_n 2, 1) := by decide +kernel
theorem dX4_addNumber_15 : decode cX4_addNumber 15 = .ok (.iconst 1, 1) := by decide +kernel
theorem dX4_addNumber_16 : decode cX4_addNumber 16 = .ok (.if_icmp .ne 16, 3) := by decide +kernel
theorem dX4_addNumber_19 : decode cX4_addNumber 19 = .ok (.aload_n 0, 1) := by decide +kernel
theorem dX4_addNumber_20 : decode cX4_addNumber 20 = .ok (.bipush 48, 2) := by decide +kernel
theorem dX4_addNumber_22 : decode cX4_addNumber 22 = .ok (.iload_n 1, 1) := by decide +kernel
theorem dX4_addNumber_23 : decode cX4_addNumber 23 = .ok (.iload_n 2, 1) := by decide +kernel
theorem dX4_addNumber_24 : decode cX4_addNumber 24 = .ok (.idiv, 1) := by decide +kernel
theorem dX4_addNumber_25 : decode cX4_addNumber 25 = .ok (.bipush 10, 2) := by decide +kernel
theorem dX4_addNumber_27 : decode cX4_addNumber 27 = .ok (.irem, 1) := by decide +kernel
theorem dX4_addNumber_28 : decode cX4_addNumber 28 = .ok (.iadd, 1) := by decide +kernel
theorem dX4_addNumber_29 : decode cX4_addNumber 29 = .ok (.invokevirtual 19, 3) := by decide +kernel
theorem dX4_addNumber_32 : decode cX4_addNumber 32 = .ok (.iload_n 2, 1) := by decide +kernel
theorem dX4_addNumber_33 : decode cX4_addNumber 33 = .ok (.bipush 10, 2) := by decide +kernel
theorem dX4_addNumber_35 : decode cX4_addNumber 35 = .ok (.idiv, 1) := by decide +kernel
theorem dX4_addNumber_36 : decode cX4_addNumber 36 = .ok (.istore_n 2, 1) := by decide +kernel
theorem dX4_addNumber_37 : decode cX4_addNumber 37 = .ok (.goto (-33), 3) := by decide +kernel
theorem dX4_addNumber_40 : decode cX4_addNumber 40 = .ok (.return_, 1) := by decide +kernel
theorem dX4_signAt_0 : decode cX4_signAt 0 = .ok (.iload_n 1, 1) := by decide +kernel
theorem dX4_signAt_1 : decode cX4_signAt 1 = .ok (.ifCond .lt 29, 3) := by decide +kernel
theorem dX4_signAt_4 : decode cX4_signAt 4 = .ok (.iload_n 1, 1) := by decide +kernel
theorem dX4_signAt_5 : decode cX4_signAt 5 = .ok (.aload_n 0, 1) := by decide +kernel
theorem dX4_signAt_6 : decode cX4_signAt 6 = .ok (.getfield 15, 3) := by decide +kernel
theorem dX4_signAt_9 : decode cX4_signAt 9 = .ok (.if_icmp .ge 21, 3) := by decide +kernel
theorem dX4_signAt_12 : decode cX4_signAt 12 = .ok (.iload_n 1, 1) := by decide +kernel
theorem dX4_signAt_13 : decode cX4_signAt 13 = .ok (.aload_n 0, 1) := by decide +kernel
theorem dX4_signAt_14 : decode cX4_signAt 14 = .ok (.getfield 9, 3) := by decide +kernel
theorem dX4_signAt_17 : decode cX4_signAt 17 = .ok (.arraylength, 1) := by decide +kernel
theorem dX4_signAt_18 : decode cX4_signAt 18 = .ok (.if_icmp .ge 12, 3) := by decide +kernel
theorem dX4_signAt_21 : decode cX4_signAt 21 = .ok (.aload_n 0, 1) := by decide +kernel
theorem dX4_signAt_22 : decode cX4_signAt 22 = .ok (.getfield 9, 3) := by decide +kernel
theorem dX4_signAt_25 : decode cX4_signAt 25 = .ok (.iload_n 1, 1) := by decide +kernel
theorem dX4_signAt_26 : decode cX4_signAt 26 = .ok (.iaload, 1) := by decide +kernel
theorem dX4_signAt_27 : decode cX4_signAt 27 = .ok (.goto 4, 3) := by decide +kernel
theorem dX4_signAt_30 : decode cX4_signAt 30 = .ok (.iconst (-1), 1) := by decide +kernel
theorem dX4_signAt_31 : decode cX4_signAt 31 = .ok (.ireturn, 1) := by decide +kernel
theorem dX5_init_0 : decode cX5_init 0 = .ok (.aload_n 0, 1) := by decide +kernel
theorem dX5_init_1 : decode cX5_init 1 = .ok (.invokespecial 3, 3) := by decide +kernel
theorem dX5_init_4 : decode cX5_init 4 = .ok (.aload_n 0, 1) := by decide +kernel
theorem dX5_init_5 : decode cX5_init 5 = .ok (.new 9, 3) := by decide +kernel
theorem dX5_init_8 : decode cX5_init 8 = .ok (.dup, 1) := by decide +kernel
theorem dX5_init_9 : decode cX5_init 9 = .ok (.invokespecial 11, 3) := by decide +kernel
theorem dX5_init_12 : decode cX5_init 12 = .ok (.putfield 12, 3) := by decide +kernel
theorem dX5_init_15 : decode cX5_init 15 = .ok (.aload_n 0, 1) := by decide +kernel
theorem dX5_init_16 : decode cX5_init 16 = .ok (.iconst 3, 1) := by decide +kernel
theorem dX5_init_17 : decode cX5_init 17 = .ok (.newarray .int, 2) := by decide +kernel
theorem dX5_init_19 : decode cX5_init 19 = .ok (.putfield 18, 3) := by decide +kernel
theorem dX5_init_22 : decode cX5_init 22 = .ok (.aload_n 0, 1) := by decide +kernel
theorem dX5_init_23 : decode cX5_init 23 = .ok (.iconst 2, 1) := by decide +kernel
theorem dX5_init_24 : decode cX5_init 24 = .ok (.newarray .int, 2) := by decide +kernel
theorem dX5_init_26 : decode cX5_init 26 = .ok (.putfield 22, 3) := by decide +kernel
theorem dX5_init_29 : decode cX5_init 29 = .ok (.aload_n 0, 1) := by decide +kernel
theorem dX5_init_30 : decode cX5_init 30 = .ok (.iconst 2, 1) := by decide +kernel
theorem dX5_init_31 : decode cX5_init 31 = .ok (.newarray .int, 2) := by decide +kernel
theorem dX5_init_33 : decode cX5_init 33 = .ok (.putfield 25, 3) := by decide +kernel
theorem dX5_init_36 : decode cX5_init 36 = .ok (.aload_n 0, 1) := by decide +kernel
theorem dX5_init_37 : decode cX5_init 37 = .ok (.iconst (-1), 1) := by decide +kernel
theorem dX5_init_38 : decode cX5_init 38 = .ok (.putfield 28, 3) := by decide +kernel
theorem dX5_init_41 : decode cX5_init 41 = .ok (.aload_n 0, 1) := by decide +kernel
theorem dX5_init_42 : decode cX5_init 42 = .ok (.aload_n 1, 1) := by decide +kernel
theorem dX5_init_43 : decode cX5_init 43 = .ok (.putfield 32, 3) := by decide +kernel
theorem dX5_init_46 : decode cX5_init 46 = .ok (.return_, 1) := by decide +kernel
theorem dX5_begin_0 : decode cX5_begin 0 = .ok (.aload_n 0, 1) := by decide +kernel
theorem dX5_begin_1 : decode cX5_begin 1 = .ok (.getfield 32, 3) := by decide +kernel
theorem dX5_begin_4 : decode cX5_begin 4 = .ok (.iconst 0, 1) := by decide +kernel
theorem dX5_begin_5 : decode cX5_begin 5 = .ok (.putfield 36, 3) := by decide +kernel
theorem dX5_begin_8 : decode cX5_begin 8 = .ok (.aload_n 0, 1) := by decide +kernel
theorem dX5_begin_9 : decode cX5_begin 9 = .ok (.iconst 0, 1) := by decide +kernel
theorem dX5_begin_10 : decode cX5_begin 10 = .ok (.putfield 41, 3) := by decide +kernel
theorem dX5_begin_13 : decode cX5_begin 13 = .ok (.aload_n 0, 1) := by decide +kernel
theorem dX5_begin_14 : decode cX5_begin 14 = .ok (.iconst 0, 1) := by decide +kernel
theorem dX5_begin_15 : decode cX5_begin 15 = .ok (.putfield 44, 3) := by decide +kernel
theorem dX5_begin_18 : decode cX5_begin 18 = .ok (.aload_n 0, 1) := by decide +kernel
theorem dX5_begin_19 : decode cX5_begin 19 = .ok (.iconst 0, 1) := by decide +kernel
theorem dX5_begin_20 : decode cX5_begin 20 = .ok (.putfield 47, 3) := by decide +kernel
theorem dX5_begin_23 : decode cX5_begin 23 = .ok (.aload_n 0, 1) := by decide +kernel
theorem dX5_begin_24 : decode cX5_begin 24 = .ok (.iconst 0, 1) := by decide +kernel
theorem dX5_begin_25 : decode cX5_begin 25 = .ok (.putfield 51, 3) := by decide +kernel
theorem dX5_begin_28 : decode cX5_begin 28 = .ok (.aload_n 0, 1) := by decide +kernel
theorem dX5_begin_29 : decode cX5_begin 29 = .ok (.iconst 0, 1) := by decide +kernel
theorem dX5_begin_30 : decode cX5_begin 30 = .ok (.putfield 54, 3) := by decide +kernel
theorem dX5_begin_33 : decode cX5_begin 33 = .ok (.aload_n 0, 1) := by decide +kernel
theorem dX5_begin_34 : decode cX5_begin 34 = .ok (.iconst (-1), 1) := by decide +kernel
theorem dX5_begin_35 : decode cX5_begin 35 = .ok (.putfield 28, 3) := by decide +kernel
theorem dX5_begin_38 : decode cX5_begin 38 = .ok (.return_, 1) := by decide +kernel
theorem dX5_goesOn_0 : decode cX5_goesOn 0 = .ok (.aload_n 0, 1) := by decide +kernel
theorem dX5_goesOn_1 : decode cX5_goesOn 1 = .ok (.getfield 51, 3) := by decide +kernel
theorem dX5_goesOn_4 : decode cX5_goesOn 4 = .ok (.ifCond .ne 14, 3) := by decide +kernel
theorem dX5_goesOn_7 : decode cX5_goesOn 7 = .ok (.aload_n 0, 1) := by decide +kernel
theorem dX5_goesOn_8 : decode cX5_goesOn 8 = .ok (.getfield 54, 3) := by decide +kernel
theorem dX5_goesOn_11 : decode cX5_goesOn 11 = .ok (.ifCond .ne 7, 3) := by decide +kernel
theorem dX5_goesOn_14 : decode cX5_goesOn 14 = .ok (.iconst 1, 1) := by decide +kernel
theorem dX5_goesOn_15 : decode cX5_goesOn 15 = .ok (.goto 4, 3) := by decide +kernel
theorem dX5_goesOn_18 : decode cX5_goesOn 18 = .ok (.iconst 0, 1) := by decide +kernel
theorem dX5_goesOn_19 : decode cX5_goesOn 19 = .ok (.ireturn, 1) := by decide +kernel
theorem dX5_readStatement_0 : decode cX5_readStatement 0 = .ok (.aload_n 0, 1) := by decide +kernel
theorem dX5_readStatement_1 : decode cX5_readStatement 1 = .ok (.aconst_null, 1) := by decide +kernel
theorem dX5_readStatement_2 : decode cX5_readStatement 2 = .ok (.putfield 57, 3) := by decide +kernel
theorem dX5_readStatement_5 : decode cX5_readStatement 5 = .ok (.aload_n 0, 1) := by decide +kernel
theorem dX5_readStatement_6 : decode cX5_readStatement 6 = .ok (.getfield 32, 3) := by decide +kernel
theorem dX5_readStatement_9 : decode cX5_readStatement 9 = .ok (.invokevirtual 61, 3) := by decide +kernel
theorem dX5_readStatement_12 : decode cX5_readStatement 12 = .ok (.aload_n 0, 1) := by decide +kernel
theorem dX5_readStatement_13 : decode cX5_readStatement 13 = .ok (.getfield 47, 3) := by decide +kernel
theorem dX5_readStatement_16 : decode cX5_readStatement 16 = .ok (.ifCond .ne 10, 3) := by decide +kernel
theorem dX5_readStatement_19 : decode cX5_readStatement 19 = .ok (.aload_n 0, 1) := by decide +kernel
theorem dX5_readStatement_20 : decode cX5_readStatement 20 = .ok (.invokevirtual 64, 3) := by decide +kernel
theorem dX5_readStatement_23 : decode cX5_readStatement 23 = .ok (.goto 76, 3) := by decide +kernel
theorem dX5_readStatement_26 : decode cX5_readStatement 26 = .ok (.aload_n 0, 1) := by decide +kernel
theorem dX5_readStatement_27 : decode cX5_readStatement 27 = .ok (.getfield 41, 3) := by decide +kernel
theorem dX5_readStatement_30 : decode cX5_readStatement 30 = .ok (.ifCond .ne 21, 3) := by decide +kernel
theorem dX5_readStatement_33 : decode cX5_readStatement 33 = .ok (.aload_n 0, 1) := by decide +kernel
theorem dX5_readStatement_34 : decode cX5_readStatement 34 = .ok (.getfield 32, 3) := by decide +kernel
theorem dX5_readStatement_37 : decode cX5_readStatement 37 = .ok (.getfield 67, 3) := by decide +kernel
theorem dX5_readStatement_40 : decode cX5_readStatement 40 = .ok (.ifCond .ne 11, 3) := by decide +kernel
theorem dX5_readStatement_43 : decode cX5_readStatement 43 = .ok (.aload_n 0, 1) := by decide +kernel
theorem dX5_readStatement_44 : decode cX5_readStatement 44 = .ok (.iconst 1, 1) := by decide +kernel
theorem dX5_readStatement_45 : decode cX5_readStatement 45 = .ok (.putfield 51, 3) := by decide +kernel
theorem dX5_readStatement_48 : decode cX5_readStatement 48 = .ok (.goto 51, 3) := by decide +kernel
theorem dX5_readStatement_51 : decode cX5_readStatement 51 = .ok (.aload_n 0, 1) := by decide +kernel
theorem dX5_readStatement_52 : decode cX5_readStatement 52 = .ok (.getfield 41, 3) := by decide +kernel
theorem dX5_readStatement_55 : decode cX5_readStatement 55 = .ok (.ifCond .le 21, 3) := by decide +kernel
theorem dX5_readStatement_58 : decode cX5_readStatement 58 = .ok (.aload_n 0, 1) := by decide +kernel
theorem dX5_readStatement_59 : decode cX5_readStatement 59 = .ok (.getfield 32, 3) := by decide +kernel
theorem dX5_readStatement_62 : decode cX5_readStatement 62 = .ok (.getfield 67, 3) := by decide +kernel
theorem dX5_readStatement_65 : decode cX5_readStatement 65 = .ok (.iconst 4, 1) := by decide +kernel
theorem dX5_readStatement_66 : decode cX5_readStatement 66 = .ok (.if_icmp .ne 10, 3) := by decide +kernel
theorem dX5_readStatement_69 : decode cX5_readStatement 69 = .ok (.aload_n 0, 1) := by decide +kernel
theorem dX5_readStatement_70 : decode cX5_readStatement 70 = .ok (.invokevirtual 70, 3) := by decide +kernel
theorem dX5_readStatement_73 : decode cX5_readStatement 73 = .ok (.goto 26, 3) := by decide +kernel
theorem dX5_readStatement_76 : decode cX5_readStatement 76 = .ok (.aload_n 0, 1) := by decide +kernel
theorem dX5_readStatement_77 : decode cX5_readStatement 77 = .ok (.getfield 32, 3) := by decide +kernel
theorem dX5_readStatement_80 : decode cX5_readStatement 80 = .ok (.ldc 73, 2) := by decide +kernel
theorem dX5_readStatement_82 : decode cX5_readStatement 82 = .ok (.invokevirtual 75, 3) := by decide +kernel
theorem dX5_readStatement_85 : decode cX5_readStatement 85 = .ok (.ifCond .eq 10, 3) := by decide +kernel
theorem dX5_readStatement_88 : decode cX5_readStatement 88 = .ok (.aload_n 0, 1) := by decide +kernel
theorem dX5_readStatement_89 : decode cX5_readStatement 89 = .ok (.invokevirtual 79, 3) := by decide +kernel
theorem dX5_readStatement_92 : decode cX5_readStatement 92 = .ok (.goto 7, 3) := by decide +kernel
theorem dX5_readStatement_95 : decode cX5_readStatement 95 = .ok (.aload_n 0, 1) := by decide +kernel
theorem dX5_readStatement_96 : decode cX5_readStatement 96 = .ok (.invokevirtual 82, 3) := by decide +kernel
theorem dX5_readStatement_99 : decode cX5_readStatement 99 = .ok (.return_, 1) := by decide +kernel
theorem dX5_perform_0 : decode cX5_perform 0 = .ok (.aload_n 0, 1) := by decide +kernel
theorem dX5_perform_1 : decode cX5_perform 1 = .ok (.getfield 57, 3) := by decide +kernel
theorem dX5_perform_4 : decode cX5_perform 4 = .ok (.ifnull 10, 3) := by decide +kernel
theorem dX5_perform_7 : decode cX5_perform 7 = .ok (.aload_n 0, 1) := by decide +kernel
theorem dX5_perform_8 : decode cX5_perform 8 = .ok (.getfield 54, 3) := by decide +kernel
theorem dX5_perform_11 : decode cX5_perform 11 = .ok (.ifCond .eq 4, 3) := by decide +kernel
theorem dX5_perform_14 : decode cX5_perform 14 = .ok (.return_, 1) := by decide +kernel
theorem dX5_perform_15 : decode cX5_perform 15 = .ok (.aload_n 0, 1) := by decide +kernel
theorem dX5_perform_16 : decode cX5_perform 16 = .ok (.dup, 1) := by decide +kernel
theorem dX5_perform_17 : decode cX5_perform 17 = .ok (.getfield 44, 3) := by decide +kernel
theorem dX5_perform_20 : decode cX5_perform 20 = .ok (.iconst 1, 1) := by decide +kernel
theorem dX5_perform_21 : decode cX5_perform 21 = .ok (.iadd, 1) := by decide +kernel
theorem dX5_perform_22 : decode cX5_perform 22 = .ok (.putfield 44, 3) := by decide +kernel
theorem dX5_perform_25 : decode cX5_perform 25 = .ok (.aload_n 0, 1) := by decide +kernel
theorem dX5_perform_26 : decode cX5_perform 26 = .ok (.getfield 18, 3) := by decide +kernel
theorem dX5_perform_29 : decode cX5_perform 29 = .ok (.iconst 0, 1) := by decide +kernel
theorem dX5_perform_30 : decode cX5_perform 30 = .ok (.iaload, 1) := by decide +kernel
theorem dX5_perform_31 : decode cX5_perform 31 = .ok (.istore_n 1, 1) := by decide +kernel
theorem dX5_perform_32 : decode cX5_perform 32 = .ok (.aload_n 0, 1) := by decide +kernel
theorem dX5_perform_33 : decode cX5_perform 33 = .ok (.getfield 18, 3) := by decide +kernel
theorem dX5_perform_36 : decode cX5_perform 36 = .ok (.iconst 1, 1) := by decide +kernel
theorem dX5_perform_37 : decode cX5_perform 37 = .ok (.iaload, 1) := by decide +kernel
theorem dX5_perform_38 : decode cX5_perform 38 = .ok (.istore_n 2, 1) := by decide +kernel
theorem dX5_perform_39 : decode cX5_perform 39 = .ok (.iconst 1, 1) := by decide +kernel
theorem dX5_perform_40 : decode cX5_perform 40 = .ok (.istore_n 3, 1) := by decide +kernel
theorem dX5_perform_41 : decode cX5_perform 41 = .ok (.getstatic 85, 3) := by decide +kernel
theorem dX5_perform_44 : decode cX5_perform 44 = .ok (.aload_n 0, 1) := by decide +kernel
theorem dX5_perform_45 : decode cX5_perform 45 = .ok (.getfield 57, 3) := by decide +kernel
theorem dX5_perform_48 : decode cX5_perform 48 = .ok (.invokevirtual 90, 3) := by decide +kernel
theorem dX5_perform_51 : decode cX5_perform 51 = .ok (.iaload, 1) := by decide +kernel
theorem dX5_perform_52 : decode cX5_perform 52 = .ok (.tableswitch 190 1 8 #[48, 82, 95, 123, 135, 147, 159, 179], 48) := by decide +kernel
theorem dX5_perform_100 : decode cX5_perform 100 = .ok (.aload_n 0, 1) := by decide +kernel
theorem dX5_perform_101 : decode cX5_perform 101 = .ok (.getfield 12, 3) := by decide +kernel
theorem dX5_perform_104 : decode cX5_perform 104 = .ok (.iload_n 1, 1) := by decide +kernel
theorem dX5_perform_105 : decode cX5_perform 105 = .ok (.invokevirtual 96, 3) := by decide +kernel
theorem dX5_perform_108 : decode cX5_perform 108 = .ok (.iconst (-1), 1) := by decide +kernel
theorem dX5_perform_109 : decode cX5_perform 109 = .ok (.if_icmp .ne 20, 3) := by decide +kernel
theorem dX5_perform_112 : decode cX5_perform 112 = .ok (.aload_n 0, 1) := by decide +kernel
theorem dX5_perform_113 : decode cX5_perform 113 = .ok (.getfield 12, 3) := by decide +kernel
theorem dX5_perform_116 : decode cX5_perform 116 = .ok (.iload_n 1, 1) := by decide +kernel
theorem dX5_perform_117 : decode cX5_perform 117 = .ok (.iload_n 2, 1) := by decide +kernel
theorem dX5_perform_118 : decode cX5_perform 118 = .ok (.invokevirtual 100, 3) := by decide +kernel
theorem dX5_perform_121 : decode cX5_perform 121 = .ok (.iconst (-1), 1) := by decide +kernel
theorem dX5_perform_122 : decode cX5_perform 122 = .ok (.if_icmp .eq 7, 3) := by decide +kernel
theorem dX5_perform_125 : decode cX5_perform 125 = .ok (.iconst 1, 1) := by decide +kernel
theorem dX5_perform_126 : decode cX5_perform 126 = .ok (.goto 4, 3) := by decide +kernel
theorem dX5_perform_129 : decode cX5_perform 129 = .ok (.iconst 0, 1) := by decide +kernel
theorem dX5_perform_130 : decode cX5_perform 130 = .ok (.istore_n 3, 1) := by decide +kernel
theorem dX5_perform_131 : decode cX5_perform 131 = .ok (.goto 133, 3) := by decide +kernel
theorem dX5_perform_134 : decode cX5_perform 134 = .ok (.aload_n 0, 1) := by decide +kernel
theorem dX5_perform_135 : decode cX5_perform 135 = .ok (.getfield 12, 3) := by decide +kernel
theorem dX5_perform_138 : decode cX5_perform 138 = .ok (.iload_n 1, 1) := by decide +kernel
theorem dX5_perform_139 : decode cX5_perform 139 = .ok (.iload_n 2, 1) := by decide +kernel
theorem dX5_perform_140 : decode cX5_perform 140 = .ok (.invokevirtual 104, 3) := by decide +kernel
theorem dX5_perform_143 : decode cX5_perform 143 = .ok (.istore_n 3, 1) := by decide +kernel
theorem dX5_perform_144 : decode cX5_perform 144 = .ok (.goto 120, 3) := by decide +kernel
theorem dX5_perform_147 : decode cX5_perform 147 = .ok (.aload_n 0, 1) := by decide +kernel
theorem dX5_perform_148 : decode cX5_perform 148 = .ok (.getfield 12, 3) := by decide +kernel
theorem dX5_perform_151 : decode cX5_perform 151 = .ok (.iload_n 1, 1) := by decide +kernel
theorem dX5_perform_152 : decode cX5_perform 152 = .ok (.iload_n 2, 1) := by decide +kernel
theorem dX5_perform_153 : decode cX5_perform 153 = .ok (.aload_n 0, 1) := by decide +kernel
theorem dX5_perform_154 : decode cX5_perform 154 = .ok (.getfield 18, 3) := by decide +kernel
theorem dX5_perform_157 : decode cX5_perform 157 = .ok (.iconst 2, 1) := by decide +kernel
theorem dX5_perform_158 : decode cX5_perform 158 = .ok (.iaload, 1) := by decide +kernel
theorem dX5_perform_159 : decode cX5_perform 159 = .ok (.invokevirtual 108, 3) := by decide +kernel
theorem dX5_perform_162 : decode cX5_perform 162 = .ok (.iconst (-1), 1) := by decide +kernel
theorem dX5_perform_163 : decode cX5_perform 163 = .ok (.if_icmp .eq 7, 3) := by decide +kernel
theorem dX5_perform_166 : decode cX5_perform 166 = .ok (.iconst 1, 1) := by decide +kernel
theorem dX5_perform_167 : decode cX5_perform 167 = .ok (.goto 4, 3) := by decide +kernel
theorem dX5_perform_170 : decode cX5_perform 170 = .ok (.iconst 0, 1) := by decide +kernel
theorem dX5_perform_171 : decode cX5_perform 171 = .ok (.istore_n 3, 1) := by decide +kernel
theorem dX5_perform_172 : decode cX5_perform 172 = .ok (.goto 92, 3) := by decide +kernel
theorem dX5_perform_175 : decode cX5_perform 175 = .ok (.aload_n 0, 1) := by decide +kernel
theorem dX5_perform_176 : decode cX5_perform 176 = .ok (.getfield 12, 3) := by decide +kernel
theorem dX5_perform_179 : decode cX5_perform 179 = .ok (.iload_n 1, 1) := by decide +kernel
theorem dX5_perform_180 : decode cX5_perform 180 = .ok (.invokevirtual 112, 3) := by decide +kernel
theorem dX5_perform_183 : decode cX5_perform 183 = .ok (.pop, 1) := by decide +kernel
theorem dX5_perform_184 : decode cX5_perform 184 = .ok (.goto 80, 3) := by decide +kernel
theorem dX5_perform_187 : decode cX5_perform 187 = .ok (.aload_n 0, 1) := by decide +kernel
theorem dX5_perform_188 : decode cX5_perform 188 = .ok (.getfield 12, 3) := by decide +kernel
theorem dX5_perform_191 : decode cX5_perform 191 = .ok (.iload_n 1, 1) := by decide +kernel
theorem dX5_perform_192 : decode cX5_perform 192 = .ok (.invokevirtual 115, 3) := by decide +kernel
theorem dX5_perform_195 : decode cX5_perform 195 = .ok (.istore_n 3, 1) := by decide +kernel
theorem dX5_perform_196 : decode cX5_perform 196 = .ok (.goto 68, 3) := by decide +kernel
theorem dX5_perform_199 : decode cX5_perform 199 = .ok (.aload_n 0, 1) := by decide +kernel
theorem dX5_perform_200 : decode cX5_perform 200 = .ok (.getfield 12, 3) := by decide +kernel
theorem dX5_perform_203 : decode cX5_perform 203 = .ok (.iload_n 1, 1) := by decide +kernel
theorem dX5_perform_204 : decode cX5_perform 204 = .ok (.invokevirtual 119, 3) := by decide +kernel
theorem dX5_perform_207 : decode cX5_perform 207 = .ok (.istore_n 3, 1) := by decide +kernel
theorem dX5_perform_208 : decode cX5_perform 208 = .ok (.goto 56, 3) := by decide +kernel
theorem dX5_perform_211 : decode cX5_perform 211 = .ok (.aload_n 0, 1) := by decide +kernel
theorem dX5_perform_212 : decode cX5_perform 212 = .ok (.getfield 12, 3) := by decide +kernel
theorem dX5_perform_215 : decode cX5_perform 215 = .ok (.iconst 2, 1) := by decide +kernel
theorem dX5_perform_216 : decode cX5_perform 216 = .ok (.aload_n 0, 1) := by decide +kernel
theorem dX5_perform_217 : decode cX5_perform 217 = .ok (.getfield 12, 3) := by decide +kernel
theorem dX5_perform_220 : decode cX5_perform 220 = .ok (.getfield 122, 3) := by decide +kernel
theorem dX5_perform_223 : decode cX5_perform 223 = .ok (.imul, 1) := by decide +kernel
theorem dX5_perform_224 : decode cX5_perform 224 = .ok (.invokevirtual 125, 3) := by decide +kernel
theorem dX5_perform_227 : decode cX5_perform 227 = .ok (.istore_n 3, 1) := by decide +kernel
theorem dX5_perform_228 : decode cX5_perform 228 = .ok (.goto 36, 3) := by decide +kernel
theorem dX5_perform_231 : decode cX5_perform 231 = .ok (.aload_n 0, 1) := by decide +kernel
theorem dX5_perform_232 : decode cX5_perform 232 = .ok (.getfield 12, 3) := by decide +kernel
theorem dX5_perform_235 : decode cX5_perform 235 = .ok (.invokevirtual 128, 3) := by decide +kernel
theorem dX5_perform_238 : decode cX5_perform 238 = .ok (.pop, 1) := by decide +kernel
theorem dX5_perform_239 : decode cX5_perform 239 = .ok (.goto 25, 3) := by decide +kernel
theorem dX5_perform_242 : decode cX5_perform 242 = .ok (.aload_n 0, 1) := by decide +kernel
theorem dX5_perform_243 : decode cX5_perform 243 = .ok (.getfield 12, 3) := by decide +kernel
theorem dX5_perform_246 : decode cX5_perform 246 = .ok (.aload_n 0, 1) := by decide +kernel
theorem dX5_perform_247 : decode cX5_perform 247 = .ok (.getfield 57, 3) := by decide +kernel
theorem dX5_perform_250 : decode cX5_perform 250 = .ok (.getstatic 131, 3) := by decide +kernel
theorem dX5_perform_253 : decode cX5_perform 253 = .ok (.if_acmp .ne 7, 3) := by decide +kernel
theorem dX5_perform_256 : decode cX5_perform 256 = .ok (.iconst 1, 1) := by decide +kernel
theorem dX5_perform_257 : decode cX5_perform 257 = .ok (.goto 4, 3) := by decide +kernel
theorem dX5_perform_260 : decode cX5_perform 260 = .ok (.iconst 0, 1) := by decide +kernel
theorem dX5_perform_261 : decode cX5_perform 261 = .ok (.putfield 134, 3) := by decide +kernel
theorem dX5_perform_264 : decode cX5_perform 264 = .ok (.iload_n 3, 1) := by decide +kernel
theorem dX5_perform_265 : decode cX5_perform 265 = .ok (.ifCond .ne 8, 3) := by decide +kernel
theorem dX5_perform_268 : decode cX5_perform 268 = .ok (.aload_n 0, 1) := by decide +kernel
theorem dX5_perform_269 : decode cX5_perform 269 = .ok (.iconst 3, 1) := by decide +kernel
theorem dX5_perform_270 : decode cX5_perform 270 = .ok (.invokevirtual 137, 3) := by decide +kernel
theorem dX5_perform_273 : decode cX5_perform 273 = .ok (.return_, 1) := by decide +kernel
theorem dX5_readOpening_0 : decode cX5_readOpening 0 = .ok (.aload_n 0, 1) := by decide +kernel
theorem dX5_readOpening_1 : decode cX5_readOpening 1 = .ok (.getfield 32, 3) := by decide +kernel
theorem dX5_readOpening_4 : decode cX5_readOpening 4 = .ok (.ldc 141, 2) := by decide +kernel
theorem dX5_readOpening_6 : decode cX5_readOpening 6 = .ok (.invokevirtual 75, 3) := by decide +kernel
theorem dX5_readOpening_9 : decode cX5_readOpening 9 = .ok (.ifCond .ne 9, 3) := by decide +kernel
theorem dX5_readOpening_12 : decode cX5_readOpening 12 = .ok (.aload_n 0, 1) := by decide +kernel
theorem dX5_readOpening_13 : decode cX5_readOpening 13 = .ok (.iconst 1, 1) := by decide +kernel
theorem dX5_readOpening_14 : decode cX5_readOpening 14 = .ok (.invokevirtual 137, 3) := by decide +kernel
theorem dX5_readOpening_17 : decode cX5_readOpening 17 = .ok (.return_, 1) := by decide +kernel
theorem dX5_readOpening_18 : decode cX5_readOpening 18 = .ok (.iconst 0, 1) := by decide +kernel
theorem dX5_readOpening_19 : decode cX5_readOpening 19 = .ok (.istore_n 1, 1) := by decide +kernel
theorem dX5_readOpening_20 : decode cX5_readOpening 20 = .ok (.iload_n 1, 1) := by decide +kernel
theorem dX5_readOpening_21 : decode cX5_readOpening 21 = .ok (.iconst 3, 1) := by decide +kernel
theorem dX5_readOpening_22 : decode cX5_readOpening 22 = .ok (.if_icmp .ge 51, 3) := by decide +kernel
theorem dX5_readOpening_25 : decode cX5_readOpening 25 = .ok (.aload_n 0, 1) := by decide +kernel
theorem dX5_readOpening_26 : decode cX5_readOpening 26 = .ok (.getfield 54, 3) := by decide +kernel
theorem dX5_readOpening_29 : decode cX5_readOpening 29 = .ok (.ifCond .ne 44, 3) := by decide +kernel
theorem dX5_readOpening_32 : decode cX5_readOpening 32 = .ok (.aload_n 0, 1) := by decide +kernel
theorem dX5_readOpening_33 : decode cX5_readOpening 33 = .ok (.getfield 18, 3) := by decide +kernel
theorem dX5_readOpening_36 : decode cX5_readOpening 36 = .ok (.iload_n 1, 1) := by decide +kernel
theorem dX5_readOpening_37 : decode cX5_readOpening 37 = .ok (.aload_n 0, 1) := by decide +kernel
theorem dX5_readOpening_38 : decode cX5_readOpening 38 = .ok (.invokevirtual 142, 3) := by decide +kernel
theorem dX5_readOpening_41 : decode cX5_readOpening 41 = .ok (.iastore, 1) := by decide +kernel
theorem dX5_readOpening_42 : decode cX5_readOpening 42 = .ok (.aload_n 0, 1) := by decide +kernel
theorem dX5_readOpening_43 : decode cX5_readOpening 43 = .ok (.getfield 54, 3) := by decide +kernel
theorem dX5_readOpening_46 : decode cX5_readOpening 46 = .ok (.ifCond .ne 21, 3) := by decide +kernel
theorem dX5_readOpening_49 : decode cX5_readOpening 49 = .ok (.iload_n 1, 1) := by decide +kernel
theorem dX5_readOpening_50 : decode cX5_readOpening 50 = .ok (.aload_n 0, 1) := by decide +kernel
theorem dX5_readOpening_51 : decode cX5_readOpening 51 = .ok (.getfield 18, 3) := by decide +kernel
theorem dX5_readOpening_54 : decode cX5_readOpening 54 = .ok (.iload_n 1, 1) := by decide +kernel
theorem dX5_readOpening_55 : decode cX5_readOpening 55 = .ok (.iaload, 1) := by decide +kernel
theorem dX5_readOpening_56 : decode cX5_readOpening 56 = .ok (.invokestatic 145, 3) := by decide +kernel
theorem dX5_readOpening_59 : decode cX5_readOpening 59 = .ok (.ifCond .ne 8, 3) := by decide +kernel
theorem dX5_readOpening_62 : decode cX5_readOpening 62 = .ok (.aload_n 0, 1) := by decide +kernel
theorem dX5_readOpening_63 : decode cX5_readOpening 63 = .ok (.iconst 2, 1) := by decide +kernel
theorem dX5_readOpening_64 : decode cX5_readOpening 64 = .ok (.invokevirtual 137, 3) := by decide +kernel
theorem dX5_readOpening_67 : decode cX5_readOpening 67 = .ok (.iinc 1 1, 3) := by decide +kernel
theorem dX5_readOpening_70 : decode cX5_readOpening 70 = .ok (.goto (-50), 3) := by decide +kernel
theorem dX5_readOpening_73 : decode cX5_readOpening 73 = .ok (.aload_n 0, 1) := by decide +kernel
theorem dX5_readOpening_74 : decode cX5_readOpening 74 = .ok (.iconst 5, 1) := by decide +kernel
theorem dX5_readOpening_75 : decode cX5_readOpening 75 = .ok (.invokevirtual 148, 3) := by decide +kernel
theorem dX5_readOpening_78 : decode cX5_readOpening 78 = .ok (.aload_n 0, 1) := by decide +kernel
theorem dX5_readOpening_79 : decode cX5_readOpening 79 = .ok (.getfield 54, 3) := by decide +kernel
theorem dX5_readOpening_82 : decode cX5_readOpening 82 = .ok (.ifCond .ne 33, 3) := by decide +kernel
theorem dX5_readOpening_85 : decode cX5_readOpening 85 = .ok (.aload_n 0, 1) := by decide +kernel
theorem dX5_readOpening_86 : decode cX5_readOpening 86 = .ok (.iconst 1, 1) := by decide +kernel
theorem dX5_readOpening_87 : decode cX5_readOpening 87 = .ok (.putfield 47, 3) := by decide +kernel
theorem dX5_readOpening_90 : decode cX5_readOpening 90 = .ok (.aload_n 0, 1) := by decide +kernel
theorem dX5_readOpening_91 : decode cX5_readOpening 91 = .ok (.getfield 12, 3) := by decide +kernel
theorem dX5_readOpening_94 : decode cX5_readOpening 94 = .ok (.aload_n 0, 1) := by decide +kernel
theorem dX5_readOpening_95 : decode cX5_readOpening 95 = .ok (.getfield 18, 3) := by decide +kernel
theorem dX5_readOpening_98 : decode cX5_readOpening 98 = .ok (.iconst 0, 1) := by decide +kernel
theorem dX5_readOpening_99 : decode cX5_readOpening 99 = .ok (.iaload, 1) := by decide +kernel
theorem dX5_readOpening_100 : decode cX5_readOpening 100 = .ok (.aload_n 0, 1) := by decide +kernel
theorem dX5_readOpening_101 : decode cX5_readOpening 101 = .ok (.getfield 18, 3) := by decide +kernel
theorem dX5_readOpening_104 : decode cX5_readOpening 104 = .ok (.iconst 1, 1) := by decide +kernel
theorem dX5_readOpening_105 : decode cX5_readOpening 105 = .ok (.iaload, 1) := by decide +kernel
theorem dX5_readOpening_106 : decode cX5_readOpening 106 = .ok (.aload_n 0, 1) := by decide +kernel
theorem dX5_readOpening_107 : decode cX5_readOpening 107 = .ok (.getfield 18, 3) := by decide +kernel
theorem dX5_readOpening_110 : decode cX5_readOpening 110 = .ok (.iconst 2, 1) := by decide +kernel
theorem dX5_readOpening_111 : decode cX5_readOpening 111 = .ok (.iaload, 1) := by decide +kernel
theorem dX5_readOpening_112 : decode cX5_readOpening 112 = .ok (.invokevirtual 151, 3) := by decide +kernel
theorem dX5_readOpening_115 : decode cX5_readOpening 115 = .ok (.return_, 1) := by decide +kernel
theorem dX5_fitsOpening_0 : decode cX5_fitsOpening 0 = .ok (.iload_n 0, 1) := by decide +kernel
theorem dX5_fitsOpening_1 : decode cX5_fitsOpening 1 = .ok (.lookupswitch 37 #[(0, 27), (1, 32)], 27) := by decide +kernel
theorem dX5_fitsOpening_28 : decode cX5_fitsOpening 28 = .ok (.iload_n 1, 1) := by decide +kernel
theorem dX5_fitsOpening_29 : decode cX5_fitsOpening 29 = .ok (.invokestatic 155, 3) := by decide +kernel
theorem dX5_fitsOpening_32 : decode cX5_fitsOpening 32 = .ok (.ireturn, 1) := by decide +kernel
theorem dX5_fitsOpening_33 : decode cX5_fitsOpening 33 = .ok (.iload_n 1, 1) := by decide +kernel
theorem dX5_fitsOpening_34 : decode cX5_fitsOpening 34 = .ok (.invokestatic 158, 3) := by decide +kernel
theorem dX5_fitsOpening_37 : decode cX5_fitsOpening 37 = .ok (.ireturn, 1) := by decide +kernel
theorem dX5_fitsOpening_38 : decode cX5_fitsOpening 38 = .ok (.iload_n 1, 1) := by decide +kernel
theorem dX5_fitsOpening_39 : decode cX5_fitsOpening 39 = .ok (.invokestatic 161, 3) := by decide +kernel
theorem dX5_fitsOpening_42 : decode cX5_fitsOpening 42 = .ok (.ireturn, 1) := by decide +kernel
theorem dX5_readRepeat_0 : decode cX5_readRepeat 0 = .ok (.aload_n 0, 1) := by decide +kernel
theorem dX5_readRepeat_1 : decode cX5_readRepeat 1 = .ok (.getfield 41, 3) := by decide +kernel
theorem dX5_readRepeat_4 : decode cX5_readRepeat 4 = .ok (.ifCond .lt 11, 3) := by decide +kernel
theorem dX5_readRepeat_7 : decode cX5_readRepeat 7 = .ok (.aload_n 0, 1) := by decide +kernel
theorem dX5_readRepeat_8 : decode cX5_readRepeat 8 = .ok (.getfield 41, 3) := by decide +kernel
theorem dX5_readRepeat_11 : decode cX5_readRepeat 11 = .ok (.iconst 2, 1) := by decide +kernel
theorem dX5_readRepeat_12 : decode cX5_readRepeat 12 = .ok (.if_icmp .lt 9, 3) := by decide +kernel
theorem dX5_readRepeat_15 : decode cX5_readRepeat 15 = .ok (.aload_n 0, 1) := by decide +kernel
theorem dX5_readRepeat_16 : decode cX5_readRepeat 16 = .ok (.iconst 4, 1) := by decide +kernel
theorem dX5_readRepeat_17 : decode cX5_readRepeat 17 = .ok (.invokevirtual 137, 3) := by decide +kernel
theorem dX5_readRepeat_20 : decode cX5_readRepeat 20 = .ok (.return_, 1) := by decide +kernel
theorem dX5_readRepeat_21 : decode cX5_readRepeat 21 = .ok (.aload_n 0, 1) := by decide +kernel
theorem dX5_readRepeat_22 : decode cX5_readRepeat 22 = .ok (.invokevirtual 142, 3) := by decide +kernel
theorem dX5_readRepeat_25 : decode cX5_readRepeat 25 = .ok (.istore_n 1, 1) := by decide +kernel
theorem dX5_readRepeat_26 : decode cX5_readRepeat 26 = .ok (.aload_n 0, 1) := by decide +kernel
theorem dX5_readRepeat_27 : decode cX5_readRepeat 27 = .ok (.getfield 54, 3) := by decide +kernel
theorem dX5_readRepeat_30 : decode cX5_readRepeat 30 = .ok (.ifCond .ne 19, 3) := by decide +kernel
theorem dX5_readRepeat_33 : decode cX5_readRepeat 33 = .ok (.iload_n 1, 1) := by decide +kernel
theorem dX5_readRepeat_34 : decode cX5_readRepeat 34 = .ok (.iconst 1, 1) := by decide +kernel
theorem dX5_readRepeat_35 : decode cX5_readRepeat 35 = .ok (.if_icmp .lt 9, 3) := by decide +kernel
theorem dX5_readRepeat_38 : decode cX5_readRepeat 38 = .ok (.iload_n 1, 1) := by decide +kernel
theorem dX5_readRepeat_39 : decode cX5_readRepeat 39 = .ok (.bipush 20, 2) := by decide +kernel
theorem dX5_readRepeat_41 : decode cX5_readRepeat 41 = .ok (.if_icmp .le 8, 3) := by decide +kernel
theorem dX5_readRepeat_44 : decode cX5_readRepeat 44 = .ok (.aload_n 0, 1) := by decide +kernel
theorem dX5_readRepeat_45 : decode cX5_readRepeat 45 = .ok (.iconst 2, 1) := by decide +kernel
theorem dX5_readRepeat_46 : decode cX5_readRepeat 46 = .ok (.invokevirtual 137, 3) := by decide +kernel
theorem dX5_readRepeat_49 : decode cX5_readRepeat 49 = .ok (.aload_n 0, 1) := by decide +kernel
theorem dX5_readRepeat_50 : decode cX5_readRepeat 50 = .ok (.iconst 3, 1) := by decide +kernel
theorem dX5_readRepeat_51 : decode cX5_readRepeat 51 = .ok (.invokevirtual 148, 3) := by decide +kernel
theorem dX5_readRepeat_54 : decode cX5_readRepeat 54 = .ok (.aload_n 0, 1) := by decide +kernel
theorem dX5_readRepeat_55 : decode cX5_readRepeat 55 = .ok (.getfield 54, 3) := by decide +kernel
theorem dX5_readRepeat_58 : decode cX5_readRepeat 58 = .ok (.ifCond .ne 39, 3) := by decide +kernel
theorem dX5_readRepeat_61 : decode cX5_readRepeat 61 = .ok (.aload_n 0, 1) := by decide +kernel
theorem dX5_readRepeat_62 : decode cX5_readRepeat 62 = .ok (.getfield 22, 3) := by decide +kernel
theorem dX5_readRepeat_65 : decode cX5_readRepeat 65 = .ok (.aload_n 0, 1) := by decide +kernel
theorem dX5_readRepeat_66 : decode cX5_readRepeat 66 = .ok (.getfield 41, 3) := by decide +kernel
theorem dX5_readRepeat_69 : decode cX5_readRepeat 69 = .ok (.aload_n 0, 1) := by decide +kernel
theorem dX5_readRepeat_70 : decode cX5_readRepeat 70 = .ok (.getfield 32, 3) := by decide +kernel
theorem dX5_readRepeat_73 : decode cX5_readRepeat 73 = .ok (.getfield 36, 3) := by decide +kernel
theorem dX5_readRepeat_76 : decode cX5_readRepeat 76 = .ok (.iastore, 1) := by decide +kernel
theorem dX5_readRepeat_77 : decode cX5_readRepeat 77 = .ok (.aload_n 0, 1) := by decide +kernel
theorem dX5_readRepeat_78 : decode cX5_readRepeat 78 = .ok (.getfield 25, 3) := by decide +kernel
theorem dX5_readRepeat_81 : decode cX5_readRepeat 81 = .ok (.aload_n 0, 1) := by decide +kernel
theorem dX5_readRepeat_82 : decode cX5_readRepeat 82 = .ok (.getfield 41, 3) := by decide +kernel
theorem dX5_readRepeat_85 : decode cX5_readRepeat 85 = .ok (.iload_n 1, 1) := by decide +kernel
theorem dX5_readRepeat_86 : decode cX5_readRepeat 86 = .ok (.iastore, 1) := by decide +kernel
theorem dX5_readRepeat_87 : decode cX5_readRepeat 87 = .ok (.aload_n 0, 1) := by decide +kernel
theorem dX5_readRepeat_88 : decode cX5_readRepeat 88 = .ok (.dup, 1) := by decide +kernel
theorem dX5_readRepeat_89 : decode cX5_readRepeat 89 = .ok (.getfield 41, 3) := by decide +kernel
theorem dX5_readRepeat_92 : decode cX5_readRepeat 92 = .ok (.iconst 1, 1) := by decide +kernel
theorem dX5_readRepeat_93 : decode cX5_readRepeat 93 = .ok (.iadd, 1) := by decide +kernel
theorem dX5_readRepeat_94 : decode cX5_readRepeat 94 = .ok (.putfield 41, 3) := by decide +kernel
theorem dX5_readRepeat_97 : decode cX5_readRepeat 97 = .ok (.return_, 1) := by decide +kernel
theorem dX5_endBody_0 : decode cX5_endBody 0 = .ok (.aload_n 0, 1) := by decide +kernel
theorem dX5_endBody_1 : decode cX5_endBody 1 = .ok (.getfield 41, 3) := by decide +kernel
theorem dX5_endBody_4 : decode cX5_endBody 4 = .ok (.iconst 1, 1) := by decide +kernel
theorem dX5_endBody_5 : decode cX5_endBody 5 = .ok (.isub, 1) := by decide +kernel
theorem dX5_endBody_6 : decode cX5_endBody 6 = .ok (.istore_n 1, 1) := by decide +kernel
theorem dX5_endBody_7 : decode cX5_endBody 7 = .ok (.iload_n 1, 1) := by decide +kernel
theorem dX5_endBody_8 : decode cX5_endBody 8 = .ok (.ifCond .lt 8, 3) := by decide +kernel
theorem dX5_endBody_11 : decode cX5_endBody 11 = .ok (.iload_n 1, 1) := by decide +kernel
theorem dX5_endBody_12 : decode cX5_endBody 12 = .ok (.iconst 2, 1) := by decide +kernel
theorem dX5_endBody_13 : decode cX5_endBody 13 = .ok (.if_icmp .lt 4, 3) := by decide +kernel
theorem dX5_endBody_16 : decode cX5_endBody 16 = .ok (.return_, 1) := by decide +kernel
theorem dX5_endBody_17 : decode cX5_endBody 17 = .ok (.aload_n 0, 1) := by decide +kernel
theorem dX5_endBody_18 : decode cX5_endBody 18 = .ok (.getfield 25, 3) := by decide +kernel
theorem dX5_endBody_21 : decode cX5_endBody 21 = .ok (.iload_n 1, 1) := by decide +kernel
theorem dX5_endBody_22 : decode cX5_endBody 22 = .ok (.dup2, 1) := by decide +kernel
theorem dX5_endBody_23 : decode cX5_endBody 23 = .ok (.iaload, 1) := by decide +kernel
theorem dX5_endBody_24 : decode cX5_endBody 24 = .ok (.iconst 1, 1) := by decide +kernel
theorem dX5_endBody_25 : decode cX5_endBody 25 = .ok (.isub, 1) := by decide +kernel
theorem dX5_endBody_26 : decode cX5_endBody 26 = .ok (.iastore, 1) := by decide +kernel
theorem dX5_endBody_27 : decode cX5_endBody 27 = .ok (.aload_n 0, 1) := by decide +kernel
theorem dX5_endBody_28 : decode cX5_endBody 28 = .ok (.getfield 25, 3) := by decide +kernel
theorem dX5_endBody_31 : decode cX5_endBody 31 = .ok (.iload_n 1, 1) := by decide +kernel
theorem dX5_endBody_32 : decode cX5_endBody 32 = .ok (.iaload, 1) := by decide +kernel
theorem dX5_endBody_33 : decode cX5_endBody 33 = .ok (.ifCond .le 17, 3) := by decide +kernel
theorem dX5_endBody_36 : decode cX5_endBody 36 = .ok (.aload_n 0, 1) := by decide +kernel
theorem dX5_endBody_37 : decode cX5_endBody 37 = .ok (.getfield 32, 3) := by decide +kernel
theorem dX5_endBody_40 : decode cX5_endBody 40 = .ok (.aload_n 0, 1) := by decide +kernel
theorem dX5_endBody_41 : decode cX5_endBody 41 = .ok (.getfield 22, 3) := by decide +kernel
theorem dX5_endBody_44 : decode cX5_endBody 44 = .ok (.iload_n 1, 1) := by decide +kernel
theorem dX5_endBody_45 : decode cX5_endBody 45 = .ok (.iaload, 1) := by decide +kernel
theorem dX5_endBody_46 : decode cX5_endBody 46 = .ok (.putfield 36, 3) := by decide +kernel
theorem dX5_endBody_49 : decode cX5_endBody 49 = .ok (.return_, 1) := by decide +kernel
theorem dX5_endBody_50 : decode cX5_endBody 50 = .ok (.aload_n 0, 1) := by decide +kernel
theorem dX5_endBody_51 : decode cX5_endBody 51 = .ok (.iload_n 1, 1) := by decide +kernel
theorem dX5_endBody_52 : decode cX5_endBody 52 = .ok (.putfield 41, 3) := by decide +kernel
theorem dX5_endBody_55 : decode cX5_endBody 55 = .ok (.aload_n 0, 1) := by decide +kernel
theorem dX5_endBody_56 : decode cX5_endBody 56 = .ok (.iconst 5, 1) := by decide +kernel
theorem dX5_endBody_57 : decode cX5_endBody 57 = .ok (.invokevirtual 148, 3) := by decide +kernel
theorem dX5_endBody_60 : decode cX5_endBody 60 = .ok (.return_, 1) := by decide +kernel
theorem dX5_readCommand_0 : decode cX5_readCommand 0 = .ok (.aconst_null, 1) := by decide +kernel
theorem dX5_readCommand_1 : decode cX5_readCommand 1 = .ok (.astore_n 1, 1) := by decide +kernel
theorem dX5_readCommand_2 : decode cX5_readCommand 2 = .ok (.iconst 0, 1) := by decide +kernel
theorem dX5_readCommand_3 : decode cX5_readCommand 3 = .ok (.istore_n 2, 1) := by decide +kernel
theorem dX5_readCommand_4 : decode cX5_readCommand 4 = .ok (.iload_n 2, 1) := by decide +kernel
theorem dX5_readCommand_5 : decode cX5_readCommand 5 = .ok (.getstatic 164, 3) := by decide +kernel
theorem dX5_readCommand_8 : decode cX5_readCommand 8 = .ok (.arraylength, 1) := by decide +kernel
theorem dX5_readCommand_9 : decode cX5_readCommand 9 = .ok (.if_icmp .ge 45, 3) := by decide +kernel
theorem dX5_readCommand_12 : decode cX5_readCommand 12 = .ok (.aload_n 1, 1) := by decide +kernel
theorem dX5_readCommand_13 : decode cX5_readCommand 13 = .ok (.ifnonnull 41, 3) := by decide +kernel
theorem dX5_readCommand_16 : decode cX5_readCommand 16 = .ok (.getstatic 164, 3) := by decide +kernel
theorem dX5_readCommand_19 : decode cX5_readCommand 19 = .ok (.iload_n 2, 1) := by decide +kernel
theorem dX5_readCommand_20 : decode cX5_readCommand 20 = .ok (.aaload, 1) := by decide +kernel
theorem dX5_readCommand_21 : decode cX5_readCommand 21 = .ok (.ifnull 27, 3) := by decide +kernel
theorem dX5_readCommand_24 : decode cX5_readCommand 24 = .ok (.aload_n 0, 1) := by decide +kernel
theorem dX5_readCommand_25 : decode cX5_readCommand 25 = .ok (.getfield 32, 3) := by decide +kernel
theorem dX5_readCommand_28 : decode cX5_readCommand 28 = .ok (.getstatic 164, 3) := by decide +kernel
theorem dX5_readCommand_31 : decode cX5_readCommand 31 = .ok (.iload_n 2, 1) := by decide +kernel
theorem dX5_readCommand_32 : decode cX5_readCommand 32 = .ok (.aaload, 1) := by decide +kernel
theorem dX5_readCommand_33 : decode cX5_readCommand 33 = .ok (.getfield 168, 3) := by decide +kernel
theorem dX5_readCommand_36 : decode cX5_readCommand 36 = .ok (.invokevirtual 75, 3) := by decide +kernel
theorem dX5_readCommand_39 : decode cX5_readCommand 39 = .ok (.ifCond .eq 9, 3) := by decide +kernel
theorem dX5_readCommand_42 : decode cX5_readCommand 42 = .ok (.getstatic 164, 3) := by decide +kernel
theorem dX5_readCommand_45 : decode cX5_readCommand 45 = .ok (.iload_n 2, 1) := by decide +kernel
theorem dX5_readCommand_46 : decode cX5_readCommand 46 = .ok (.aaload, 1) := by decide +kernel
theorem dX5_readCommand_47 : decode cX5_readCommand 47 = .ok (.astore_n 1, 1) := by decide +kernel
theorem dX5_readCommand_48 : decode cX5_readCommand 48 = .ok (.iinc 2 1, 3) := by decide +kernel
theorem dX5_readCommand_51 : decode cX5_readCommand 51 = .ok (.goto (-47), 3) := by decide +kernel
theorem dX5_readCommand_54 : decode cX5_readCommand 54 = .ok (.aload_n 1, 1) := by decide +kernel
theorem dX5_readCommand_55 : decode cX5_readCommand 55 = .ok (.ifnonnull 9, 3) := by decide +kernel
theorem dX5_readCommand_58 : decode cX5_readCommand 58 = .ok (.aload_n 0, 1) := by decide +kernel
theorem dX5_readCommand_59 : decode cX5_readCommand 59 = .ok (.iconst 1, 1) := by decide +kernel
theorem dX5_readCommand_60 : decode cX5_readCommand 60 = .ok (.invokevirtual 137, 3) := by decide +kernel
theorem dX5_readCommand_63 : decode cX5_readCommand 63 = .ok (.return_, 1) := by decide +kernel
theorem dX5_readCommand_64 : decode cX5_readCommand 64 = .ok (.aload_n 0, 1) := by decide +kernel
theorem dX5_readCommand_65 : decode cX5_readCommand 65 = .ok (.getfield 44, 3) := by decide +kernel
theorem dX5_readCommand_68 : decode cX5_readCommand 68 = .ok (.sipush 200, 3) := by decide +kernel
theorem dX5_readCommand_71 : decode cX5_readCommand 71 = .ok (.if_icmp .lt 9, 3) := by decide +kernel
theorem dX5_readCommand_74 : decode cX5_readCommand 74 = .ok (.aload_n 0, 1) := by decide +kernel
theorem dX5_readCommand_75 : decode cX5_readCommand 75 = .ok (.iconst 5, 1) := by decide +kernel
theorem dX5_readCommand_76 : decode cX5_readCommand 76 = .ok (.invokevirtual 137, 3) := by decide +kernel
theorem dX5_readCommand_79 : decode cX5_readCommand 79 = .ok (.return_, 1) := by decide +kernel
theorem dX5_readCommand_80 : decode cX5_readCommand 80 = .ok (.iconst 0, 1) := by decide +kernel
theorem dX5_readCommand_81 : decode cX5_readCommand 81 = .ok (.istore_n 2, 1) := by decide +kernel
theorem dX5_readCommand_82 : decode cX5_readCommand 82 = .ok (.iload_n 2, 1) := by decide +kernel
theorem dX5_readCommand_83 : decode cX5_readCommand 83 = .ok (.aload_n 1, 1) := by decide +kernel
theorem dX5_readCommand_84 : decode cX5_readCommand 84 = .ok (.getfield 172, 3) := by decide +kernel
theorem dX5_readCommand_87 : decode cX5_readCommand 87 = .ok (.if_icmp .ge 56, 3) := by decide +kernel
theorem dX5_readCommand_90 : decode cX5_readCommand 90 = .ok (.iload_n 2, 1) := by decide +kernel
theorem dX5_readCommand_91 : decode cX5_readCommand 91 = .ok (.aload_n 0, 1) := by decide +kernel
theorem dX5_readCommand_92 : decode cX5_readCommand 92 = .ok (.getfield 18, 3) := by decide +kernel
theorem dX5_readCommand_95 : decode cX5_readCommand 95 = .ok (.arraylength, 1) := by decide +kernel
theorem dX5_readCommand_96 : decode cX5_readCommand 96 = .ok (.if_icmp .ge 47, 3) := by decide +kernel
theorem dX5_readCommand_99 : decode cX5_readCommand 99 = .ok (.aload_n 0, 1) := by decide +kernel
theorem dX5_readCommand_100 : decode cX5_readCommand 100 = .ok (.getfield 54, 3) := by decide +kernel
theorem dX5_readCommand_103 : decode cX5_readCommand 103 = .ok (.ifCond .ne 40, 3) := by decide +kernel
theorem dX5_readCommand_106 : decode cX5_readCommand 106 = .ok (.aload_n 0, 1) := by decide +kernel
theorem dX5_readCommand_107 : decode cX5_readCommand 107 = .ok (.getfield 18, 3) := by decide +kernel
theorem dX5_readCommand_110 : decode cX5_readCommand 110 = .ok (.iload_n 2, 1) := by decide +kernel
theorem dX5_readCommand_111 : decode cX5_readCommand 111 = .ok (.aload_n 0, 1) := by decide +kernel
theorem dX5_readCommand_112 : decode cX5_readCommand 112 = .ok (.invokevirtual 142, 3) := by decide +kernel
theorem dX5_readCommand_115 : decode cX5_readCommand 115 = .ok (.iastore, 1) := by decide +kernel
theorem dX5_readCommand_116 : decode cX5_readCommand 116 = .ok (.aload_n 0, 1) := by decide +kernel
theorem dX5_readCommand_117 : decode cX5_readCommand 117 = .ok (.getfield 54, 3) := by decide +kernel
theorem dX5_readCommand_120 : decode cX5_readCommand 120 = .ok (.ifCond .ne 17, 3) := by decide +kernel
theorem dX5_readCommand_123 : decode cX5_readCommand 123 = .ok (.aload_n 0, 1) := by decide +kernel
theorem dX5_readCommand_124 : decode cX5_readCommand 124 = .ok (.aload_n 1, 1) := by decide +kernel
theorem dX5_readCommand_125 : decode cX5_readCommand 125 = .ok (.iload_n 2, 1) := by decide +kernel
theorem dX5_readCommand_126 : decode cX5_readCommand 126 = .ok (.invokevirtual 174, 3) := by decide +kernel
theorem dX5_readCommand_129 : decode cX5_readCommand 129 = .ok (.ifCond .ne 8, 3) := by decide +kernel
theorem dX5_readCommand_132 : decode cX5_readCommand 132 = .ok (.aload_n 0, 1) := by decide +kernel
theorem dX5_readCommand_133 : decode cX5_readCommand 133 = .ok (.iconst 2, 1) := by decide +kernel
theorem dX5_readCommand_134 : decode cX5_readCommand 134 = .ok (.invokevirtual 137, 3) := by decide +kernel
theorem dX5_readCommand_137 : decode cX5_readCommand 137 = .ok (.iinc 2 1, 3) := by decide +kernel
theorem dX5_readCommand_140 : decode cX5_readCommand 140 = .ok (.goto (-58), 3) := by decide +kernel
theorem dX5_readCommand_143 : decode cX5_readCommand 143 = .ok (.aload_n 0, 1) := by decide +kernel
theorem dX5_readCommand_144 : decode cX5_readCommand 144 = .ok (.iconst 5, 1) := by decide +kernel
theorem dX5_readCommand_145 : decode cX5_readCommand 145 = .ok (.invokevirtual 148, 3) := by decide +kernel
theorem dX5_readCommand_148 : decode cX5_readCommand 148 = .ok (.aload_n 0, 1) := by decide +kernel
theorem dX5_readCommand_149 : decode cX5_readCommand 149 = .ok (.aload_n 1, 1) := by decide +kernel
theorem dX5_readCommand_150 : decode cX5_readCommand 150 = .ok (.putfield 57, 3) := by decide +kernel
theorem dX5_readCommand_153 : decode cX5_readCommand 153 = .ok (.return_, 1) := by decide +kernel
theorem dX5_fits_0 : decode cX5_fits 0 = .ok (.aload_n 0, 1) := by decide +kernel
theorem dX5_fits_1 : decode cX5_fits 1 = .ok (.getfield 18, 3) := by decide +kernel
theorem dX5_fits_4 : decode cX5_fits 4 = .ok (.iconst 0, 1) := by decide +kernel
theorem dX5_fits_5 : decode cX5_fits 5 = .ok (.iaload, 1) := by decide +kernel
theorem dX5_fits_6 : decode cX5_fits 6 = .ok (.istore_n 3, 1) := by decide +kernel
theorem dX5_fits_7 : decode cX5_fits 7 = .ok (.getstatic 85, 3) := by decide +kernel
theorem dX5_fits_10 : decode cX5_fits 10 = .ok (.aload_n 1, 1) := by decide +kernel
theorem dX5_fits_11 : decode cX5_fits 11 = .ok (.invokevirtual 90, 3) := by decide +kernel
theorem dX5_fits_14 : decode cX5_fits 14 = .ok (.iaload, 1) := by decide +kernel
theorem dX5_fits_15 : decode cX5_fits 15 = .ok (.tableswitch 131 1 6 #[37, 37, 58, 103, 121, 126], 37) := by decide +kernel
theorem dX5_fits_52 : decode cX5_fits 52 = .ok (.iload_n 2, 1) := by decide +kernel
theorem dX5_fits_53 : decode cX5_fits 53 = .ok (.ifCond .ne 10, 3) := by decide +kernel
theorem dX5_fits_56 : decode cX5_fits 56 = .ok (.iload_n 3, 1) := by decide +kernel
theorem dX5_fits_57 : decode cX5_fits 57 = .ok (.invokestatic 178, 3) := by decide +kernel
theorem dX5_fits_60 : decode cX5_fits 60 = .ok (.goto 12, 3) := by decide +kernel
theorem dX5_fits_63 : decode cX5_fits 63 = .ok (.aload_n 0, 1) := by decide +kernel
theorem dX5_fits_64 : decode cX5_fits 64 = .ok (.getfield 18, 3) := by decide +kernel
theorem dX5_fits_67 : decode cX5_fits 67 = .ok (.iconst 1, 1) := by decide +kernel
theorem dX5_fits_68 : decode cX5_fits 68 = .ok (.iaload, 1) := by decide +kernel
theorem dX5_fits_69 : decode cX5_fits 69 = .ok (.invokestatic 181, 3) := by decide +kernel
theorem dX5_fits_72 : decode cX5_fits 72 = .ok (.ireturn, 1) := by decide +kernel
theorem dX5_fits_73 : decode cX5_fits 73 = .ok (.iload_n 2, 1) := by decide +kernel
theorem dX5_fits_74 : decode cX5_fits 74 = .ok (.ifCond .ne 10, 3) := by decide +kernel
theorem dX5_fits_77 : decode cX5_fits 77 = .ok (.iload_n 3, 1) := by decide +kernel
theorem dX5_fits_78 : decode cX5_fits 78 = .ok (.invokestatic 178, 3) := by decide +kernel
theorem dX5_fits_81 : decode cX5_fits 81 = .ok (.goto 36, 3) := by decide +kernel
theorem dX5_fits_84 : decode cX5_fits 84 = .ok (.iload_n 2, 1) := by decide +kernel
theorem dX5_fits_85 : decode cX5_fits 85 = .ok (.iconst 1, 1) := by decide +kernel
theorem dX5_fits_86 : decode cX5_fits 86 = .ok (.if_icmp .ne 15, 3) := by decide +kernel
theorem dX5_fits_89 : decode cX5_fits 89 = .ok (.aload_n 0, 1) := by decide +kernel
theorem dX5_fits_90 : decode cX5_fits 90 = .ok (.getfield 18, 3) := by decide +kernel
theorem dX5_fits_93 : decode cX5_fits 93 = .ok (.iconst 1, 1) := by decide +kernel
theorem dX5_fits_94 : decode cX5_fits 94 = .ok (.iaload, 1) := by decide +kernel
theorem dX5_fits_95 : decode cX5_fits 95 = .ok (.invokestatic 184, 3) := by decide +kernel
theorem dX5_fits_98 : decode cX5_fits 98 = .ok (.goto 19, 3) := by decide +kernel
theorem dX5_fits_101 : decode cX5_fits 101 = .ok (.iload_n 3, 1) := by decide +kernel
theorem dX5_fits_102 : decode cX5_fits 102 = .ok (.aload_n 0, 1) := by decide +kernel
theorem dX5_fits_103 : decode cX5_fits 103 = .ok (.getfield 18, 3) := by decide +kernel
theorem dX5_fits_106 : decode cX5_fits 106 = .ok (.iconst 1, 1) := by decide +kernel
theorem dX5_fits_107 : decode cX5_fits 107 = .ok (.iaload, 1) := by decide +kernel
theorem dX5_fits_108 : decode cX5_fits 108 = .ok (.aload_n 0, 1) := by decide +kernel
theorem dX5_fits_109 : decode cX5_fits 109 = .ok (.getfield 18, 3) := by decide +kernel
theorem dX5_fits_112 : decode cX5_fits 112 = .ok (.iconst 2, 1) := by decide +kernel
theorem dX5_fits_113 : decode cX5_fits 113 = .ok (.iaload, 1) := by decide +kernel
theorem dX5_fits_114 : decode cX5_fits 114 = .ok (.invokestatic 187, 3) := by decide +kernel
theorem dX5_fits_117 : decode cX5_fits 117 = .ok (.ireturn, 1) := by decide +kernel
theorem dX5_fits_118 : decode cX5_fits 118 = .ok (.aload_n 0, 1) := by decide +kernel
theorem dX5_fits_119 : decode cX5_fits 119 = .ok (.getfield 12, 3) := by decide +kernel
theorem dX5_fits_122 : decode cX5_fits 122 = .ok (.iload_n 3, 1) := by decide +kernel
theorem dX5_fits_123 : decode cX5_fits 123 = .ok (.invokevirtual 96, 3) := by decide +kernel
theorem dX5_fits_126 : decode cX5_fits 126 = .ok (.iconst (-1), 1) := by decide +kernel
theorem dX5_fits_127 : decode cX5_fits 127 = .ok (.if_icmp .eq 7, 3) := by decide +kernel
theorem dX5_fits_130 : decode cX5_fits 130 = .ok (.iconst 1, 1) := by decide +kernel
theorem dX5_fits_131 : decode cX5_fits 131 = .ok (.goto 4, 3) := by decide +kernel
theorem dX5_fits_134 : decode cX5_fits 134 = .ok (.iconst 0, 1) := by decide +kernel
theorem dX5_fits_135 : decode cX5_fits 135 = .ok (.ireturn, 1) := by decide +kernel
theorem dX5_fits_136 : decode cX5_fits 136 = .ok (.iload_n 3, 1) := by decide +kernel
theorem dX5_fits_137 : decode cX5_fits 137 = .ok (.invokestatic 158, 3) := by decide +kernel
theorem dX5_fits_140 : decode cX5_fits 140 = .ok (.ireturn, 1) := by decide +kernel
theorem dX5_fits_141 : decode cX5_fits 141 = .ok (.iload_n 3, 1) := by decide +kernel
theorem dX5_fits_142 : decode cX5_fits 142 = .ok (.invokestatic 161, 3) := by decide +kernel
theorem dX5_fits_145 : decode cX5_fits 145 = .ok (.ireturn, 1) := by decide +kernel
theorem dX5_fits_146 : decode cX5_fits 146 = .ok (.iconst 1, 1) := by decide +kernel
theorem dX5_fits_147 : decode cX5_fits 147 = .ok (.ireturn, 1) := by decide +kernel
theorem dX5_readNumber_0 : decode cX5_readNumber 0 = .ok (.aload_n 0, 1) := by decide +kernel
theorem dX5_readNumber_1 : decode cX5_readNumber 1 = .ok (.iconst 2, 1) := by decide +kernel
theorem dX5_readNumber_2 : decode cX5_readNumber 2 = .ok (.invokevirtual 148, 3) := by decide +kernel
theorem dX5_readNumber_5 : decode cX5_readNumber 5 = .ok (.aload_n 0, 1) := by decide +kernel
theorem dX5_readNumber_6 : decode cX5_readNumber 6 = .ok (.getfield 32, 3) := by decide +kernel
theorem dX5_readNumber_9 : decode cX5_readNumber 9 = .ok (.getfield 191, 3) := by decide +kernel
theorem dX5_readNumber_12 : decode cX5_readNumber 12 = .ok (.ireturn, 1) := by decide +kernel
theorem dX5_expect_0 : decode cX5_expect 0 = .ok (.aload_n 0, 1) := by decide +kernel
theorem dX5_expect_1 : decode cX5_expect 1 = .ok (.getfield 54, 3) := by decide +kernel
theorem dX5_expect_4 : decode cX5_expect 4 = .ok (.ifCond .eq 4, 3) := by decide +kernel
theorem dX5_expect_7 : decode cX5_expect 7 = .ok (.return_, 1) := by decide +kernel
theorem dX5_expect_8 : decode cX5_expect 8 = .ok (.aload_n 0, 1) := by decide +kernel
theorem dX5_expect_9 : decode cX5_expect 9 = .ok (.getfield 32, 3) := by decide +kernel
theorem dX5_expect_12 : decode cX5_expect 12 = .ok (.invokevirtual 61, 3) := by decide +kernel
theorem dX5_expect_15 : decode cX5_expect 15 = .ok (.aload_n 0, 1) := by decide +kernel
theorem dX5_expect_16 : decode cX5_expect 16 = .ok (.getfield 32, 3) := by decide +kernel
theorem dX5_expect_19 : decode cX5_expect 19 = .ok (.getfield 67, 3) := by decide +kernel
theorem dX5_expect_22 : decode cX5_expect 22 = .ok (.iload_n 1, 1) := by decide +kernel
theorem dX5_expect_23 : decode cX5_expect 23 = .ok (.if_icmp .eq 8, 3) := by decide +kernel
theorem dX5_expect_26 : decode cX5_expect 26 = .ok (.aload_n 0, 1) := by decide +kernel
theorem dX5_expect_27 : decode cX5_expect 27 = .ok (.iconst 1, 1) := by decide +kernel
theorem dX5_expect_28 : decode cX5_expect 28 = .ok (.invokevirtual 137, 3) := by decide +kernel
theorem dX5_expect_31 : decode cX5_expect 31 = .ok (.return_, 1) := by decide +kernel
theorem dX5_fail_0 : decode cX5_fail 0 = .ok (.aload_n 0, 1) := by decide +kernel
theorem dX5_fail_1 : decode cX5_fail 1 = .ok (.iload_n 1, 1) := by decide +kernel
theorem dX5_fail_2 : decode cX5_fail 2 = .ok (.putfield 54, 3) := by decide +kernel
theorem dX5_fail_5 : decode cX5_fail 5 = .ok (.aload_n 0, 1) := by decide +kernel
theorem dX5_fail_6 : decode cX5_fail 6 = .ok (.aload_n 0, 1) := by decide +kernel
theorem dX5_fail_7 : decode cX5_fail 7 = .ok (.getfield 32, 3) := by decide +kernel
theorem dX5_fail_10 : decode cX5_fail 10 = .ok (.getfield 194, 3) := by decide +kernel
theorem dX5_fail_13 : decode cX5_fail 13 = .ok (.putfield 28, 3) := by decide +kernel
theorem dX5_fail_16 : decode cX5_fail 16 = .ok (.return_, 1) := by decide +kernel
theorem dX6_init_0 : decode cX6_init 0 = .ok (.aload_n 0, 1) := by decide +kernel
theorem dX6_init_1 : decode cX6_init 1 = .ok (.invokespecial 3, 3) := by decide +kernel
theorem dX6_init_4 : decode cX6_init 4 = .ok (.aload_n 0, 1) := by decide +kernel
theorem dX6_init_5 : decode cX6_init 5 = .ok (.bipush 64, 2) := by decide +kernel
theorem dX6_init_7 : decode cX6_init 7 = .ok (.newarray .int, 2) := by decide +kernel
theorem dX6_init_9 : decode cX6_init 9 = .ok (.putfield 9, 3) := by decide +kernel
theorem dX6_init_12 : decode cX6_init 12 = .ok (.aload_n 0, 1) := by decide +kernel
theorem dX6_init_13 : decode cX6_init 13 = .ok (.bipush 64, 2) := by decide +kernel
theorem dX6_init_15 : decode cX6_init 15 = .ok (.newarray .int, 2) := by decide +kernel
theorem dX6_init_17 : decode cX6_init 17 = .ok (.putfield 15, 3) := by decide +kernel
theorem dX6_init_20 : decode cX6_init 20 = .ok (.aload_n 0, 1) := by decide +kernel
theorem dX6_init_21 : decode cX6_init 21 = .ok (.bipush 64, 2) := by decide +kernel
theorem dX6_init_23 : decode cX6_init 23 = .ok (.newarray .int, 2) := by decide +kernel
theorem dX6_init_25 : decode cX6_init 25 = .ok (.putfield 18, 3) := by decide +kernel
theorem dX6_init_28 : decode cX6_init 28 = .ok (.aload_n 0, 1) := by decide +kernel
theorem dX6_init_29 : decode cX6_init 29 = .ok (.bipush 64, 2) := by decide +kernel
theorem dX6_init_31 : decode cX6_init 31 = .ok (.newarray .int, 2) := by decide +kernel
theorem dX6_init_33 : decode cX6_init 33 = .ok (.putfield 21, 3) := by decide +kernel
theorem dX6_init_36 : decode cX6_init 36 = .ok (.aload_n 0, 1) := by decide +kernel
theorem dX6_init_37 : decode cX6_init 37 = .ok (.bipush 64, 2) := by decide +kernel
theorem dX6_init_39 : decode cX6_init 39 = .ok (.newarray .int, 2) := by decide +kernel
theorem dX6_init_41 : decode cX6_init 41 = .ok (.putfield 24, 3) := by decide +kernel
theorem dX6_init_44 : decode cX6_init 44 = .ok (.aload_n 0, 1) := by decide +kernel
theorem dX6_init_45 : decode cX6_init 45 = .ok (.bipush 8, 2) := by decide +kernel
theorem dX6_init_47 : decode cX6_init 47 = .ok (.iconst 2, 1) := by decide +kernel
theorem dX6_init_48 : decode cX6_init 48 = .ok (.iconst 1, 1) := by decide +kernel
theorem dX6_init_49 : decode cX6_init 49 = .ok (.invokevirtual 27, 3) := by decide +kernel
theorem dX6_init_52 : decode cX6_init 52 = .ok (.return_, 1) := by decide +kernel
theorem dX6_begin_0 : decode cX6_begin 0 = .ok (.aload_n 0, 1) := by decide +kernel
theorem dX6_begin_1 : decode cX6_begin 1 = .ok (.iload_n 2, 1) := by decide +kernel
theorem dX6_begin_2 : decode cX6_begin 2 = .ok (.putfield 31, 3) := by decide +kernel
theorem dX6_begin_5 : decode cX6_begin 5 = .ok (.aload_n 0, 1) := by decide +kernel
theorem dX6_begin_6 : decode cX6_begin 6 = .ok (.iload_n 3, 1) := by decide +kernel
theorem dX6_begin_7 : decode cX6_begin 7 = .ok (.putfield 35, 3) := by decide +kernel
theorem dX6_begin_10 : decode cX6_begin 10 = .ok (.aload_n 0, 1) := by decide +kernel
theorem dX6_begin_11 : decode cX6_begin 11 = .ok (.iconst 0, 1) := by decide +kernel
theorem dX6_begin_12 : decode cX6_begin 12 = .ok (.putfield 38, 3) := by decide +kernel
theorem dX6_begin_15 : decode cX6_begin 15 = .ok (.aload_n 0, 1) := by decide +kernel
theorem dX6_begin_16 : decode cX6_begin 16 = .ok (.iconst 0, 1) := by decide +kernel
theorem dX6_begin_17 : decode cX6_begin 17 = .ok (.putfield 42, 3) := by decide +kernel
theorem dX6_begin_20 : decode cX6_begin 20 = .ok (.aload_n 0, 1) := by decide +kernel
theorem dX6_begin_21 : decode cX6_begin 21 = .ok (.iconst 0, 1) := by decide +kernel
theorem dX6_begin_22 : decode cX6_begin 22 = .ok (.putfield 45, 3) := by decide +kernel
theorem dX6_begin_25 : decode cX6_begin 25 = .ok (.aload_n 0, 1) := by decide +kernel
theorem dX6_begin_26 : decode cX6_begin 26 = .ok (.iconst 0, 1) := by decide +kernel
theorem dX6_begin_27 : decode cX6_begin 27 = .ok (.putfield 48, 3) := by decide +kernel
theorem dX6_begin_30 : decode cX6_begin 30 = .ok (.aload_n 0, 1) := by decide +kernel
theorem dX6_begin_31 : decode cX6_begin 31 = .ok (.iconst 0, 1) := by decide +kernel
theorem dX6_begin_32 : decode cX6_begin 32 = .ok (.putfield 51, 3) := by decide +kernel
theorem dX6_begin_35 : decode cX6_begin 35 = .ok (.aload_n 0, 1) := by decide +kernel
theorem dX6_begin_36 : decode cX6_begin 36 = .ok (.iload_n 1, 1) := by decide +kernel
theorem dX6_begin_37 : decode cX6_begin 37 = .ok (.invokevirtual 54, 3) := by decide +kernel
theorem dX6_begin_40 : decode cX6_begin 40 = .ok (.return_, 1) := by decide +kernel
theorem dX6_copyFrom_0 : decode cX6_copyFrom 0 = .ok (.aload_n 1, 1) := by decide +kernel
theorem dX6_copyFrom_1 : decode cX6_copyFrom 1 = .ok (.getfield 9, 3) := by decide +kernel
theorem dX6_copyFrom_4 : decode cX6_copyFrom 4 = .ok (.iconst 0, 1) := by decide +kernel
theorem dX6_copyFrom_5 : decode cX6_copyFrom 5 = .ok (.aload_n 0, 1) := by decide +kernel
theorem dX6_copyFrom_6 : decode cX6_copyFrom 6 = .ok (.getfield 9, 3) := by decide +kernel
theorem dX6_copyFrom_9 : decode cX6_copyFrom 9 = .ok (.iconst 0, 1) := by decide +kernel
theorem dX6_copyFrom_10 : decode cX6_copyFrom 10 = .ok (.bipush 64, 2) := by decide +kernel
theorem dX6_copyFrom_12 : decode cX6_copyFrom 12 = .ok (.invokestatic 58, 3) := by decide +kernel
theorem dX6_copyFrom_15 : decode cX6_copyFrom 15 = .ok (.aload_n 1, 1) := by decide +kernel
theorem dX6_copyFrom_16 : decode cX6_copyFrom 16 = .ok (.getfield 15, 3) := by decide +kernel
theorem dX6_copyFrom_19 : decode cX6_copyFrom 19 = .ok (.iconst 0, 1) := by decide +kernel
theorem dX6_copyFrom_20 : decode cX6_copyFrom 20 = .ok (.aload_n 0, 1) := by decide +kernel
theorem dX6_copyFrom_21 : decode cX6_copyFrom 21 = .ok (.getfield 15, 3) := by decide +kernel
theorem dX6_copyFrom_24 : decode cX6_copyFrom 24 = .ok (.iconst 0, 1) := by decide +kernel
theorem dX6_copyFrom_25 : decode cX6_copyFrom 25 = .ok (.bipush 64, 2) := by decide +kernel
theorem dX6_copyFrom_27 : decode cX6_copyFrom 27 = .ok (.invokestatic 58, 3) := by decide +kernel
theorem dX6_copyFrom_30 : decode cX6_copyFrom 30 = .ok (.aload_n 1, 1) := by decide +kernel
theorem dX6_copyFrom_31 : decode cX6_copyFrom 31 = .ok (.getfield 18, 3) := by decide +kernel
theorem dX6_copyFrom_34 : decode cX6_copyFrom 34 = .ok (.iconst 0, 1) := by decide +kernel
theorem dX6_copyFrom_35 : decode cX6_copyFrom 35 = .ok (.aload_n 0, 1) := by decide +kernel
theorem dX6_copyFrom_36 : decode cX6_copyFrom 36 = .ok (.getfield 18, 3) := by decide +kernel
theorem dX6_copyFrom_39 : decode cX6_copyFrom 39 = .ok (.iconst 0, 1) := by decide +kernel
theorem dX6_copyFrom_40 : decode cX6_copyFrom 40 = .ok (.bipush 64, 2) := by decide +kernel
theorem dX6_copyFrom_42 : decode cX6_copyFrom 42 = .ok (.invokestatic 58, 3) := by decide +kernel
theorem dX6_copyFrom_45 : decode cX6_copyFrom 45 = .ok (.aload_n 0, 1) := by decide +kernel
theorem dX6_copyFrom_46 : decode cX6_copyFrom 46 = .ok (.aload_n 1, 1) := by decide +kernel
theorem dX6_copyFrom_47 : decode cX6_copyFrom 47 = .ok (.getfield 64, 3) := by decide +kernel
theorem dX6_copyFrom_50 : decode cX6_copyFrom 50 = .ok (.putfield 64, 3) := by decide +kernel
theorem dX6_copyFrom_53 : decode cX6_copyFrom 53 = .ok (.aload_n 0, 1) := by decide +kernel
theorem dX6_copyFrom_54 : decode cX6_copyFrom 54 = .ok (.aload_n 1, 1) := by decide +kernel
theorem dX6_copyFrom_55 : decode cX6_copyFrom 55 = .ok (.getfield 31, 3) := by decide +kernel
theorem dX6_copyFrom_58 : decode cX6_copyFrom 58 = .ok (.putfield 31, 3) := by decide +kernel
theorem dX6_copyFrom_61 : decode cX6_copyFrom 61 = .ok (.aload_n 0, 1) := by decide +kernel
theorem dX6_copyFrom_62 : decode cX6_copyFrom 62 = .ok (.aload_n 1, 1) := by decide +kernel
theorem dX6_copyFrom_63 : decode cX6_copyFrom 63 = .ok (.getfield 35, 3) := by decide +kernel
theorem dX6_copyFrom_66 : decode cX6_copyFrom 66 = .ok (.putfield 35, 3) := by decide +kernel
theorem dX6_copyFrom_69 : decode cX6_copyFrom 69 = .ok (.aload_n 0, 1) := by decide +kernel
theorem dX6_copyFrom_70 : decode cX6_copyFrom 70 = .ok (.aload_n 1, 1) := by decide +kernel
theorem dX6_copyFrom_71 : decode cX6_copyFrom 71 = .ok (.getfield 38, 3) := by decide +kernel
theorem dX6_copyFrom_74 : decode cX6_copyFrom 74 = .ok (.putfield 38, 3) := by decide +kernel
theorem dX6_copyFrom_77 : decode cX6_copyFrom 77 = .ok (.aload_n 0, 1) := by decide +kernel
theorem dX6_copyFrom_78 : decode cX6_copyFrom 78 = .ok (.aload_n 1, 1) := by decide +kernel
theorem dX6_copyFrom_79 : decode cX6_copyFrom 79 = .ok (.getfield 67, 3) := by decide +kernel
theorem dX6_copyFrom_82 : decode cX6_copyFrom 82 = .ok (.putfield 67, 3) := by decide +kernel
theorem dX6_copyFrom_85 : decode cX6_copyFrom 85 = .ok (.aload_n 0, 1) := by decide +kernel
theorem dX6_copyFrom_86 : decode cX6_copyFrom 86 = .ok (.aload_n 1, 1) := by decide +kernel
theorem dX6_copyFrom_87 : decode cX6_copyFrom 87 = .ok (.getfield 70, 3) := by decide +kernel
theorem dX6_copyFrom_90 : decode cX6_copyFrom 90 = .ok (.putfield 70, 3) := by decide +kernel
theorem dX6_copyFrom_93 : decode cX6_copyFrom 93 = .ok (.aload_n 0, 1) := by decide +kernel
theorem dX6_copyFrom_94 : decode cX6_copyFrom 94 = .ok (.aload_n 1, 1) := by decide +kernel
theorem dX6_copyFrom_95 : decode cX6_copyFrom 95 = .ok (.getfield 42, 3) := by decide +kernel
theorem dX6_copyFrom_98 : decode cX6_copyFrom 98 = .ok (.putfield 42, 3) := by decide +kernel
theorem dX6_copyFrom_101 : decode cX6_copyFrom 101 = .ok (.aload_n 0, 1) := by decide +kernel
theorem dX6_copyFrom_102 : decode cX6_copyFrom 102 = .ok (.aload_n 1, 1) := by decide +kernel
theorem dX6_copyFrom_103 : decode cX6_copyFrom 103 = .ok (.getfield 45, 3) := by decide +kernel
theorem dX6_copyFrom_106 : decode cX6_copyFrom 106 = .ok (.putfield 45, 3) := by decide +kernel
theorem dX6_copyFrom_109 : decode cX6_copyFrom 109 = .ok (.aload_n 0, 1) := by decide +kernel
theorem dX6_copyFrom_110 : decode cX6_copyFrom 110 = .ok (.aload_n 1, 1) := by decide +kernel
theorem dX6_copyFrom_111 : decode cX6_copyFrom 111 = .ok (.getfield 48, 3) := by decide +kernel
theorem dX6_copyFrom_114 : decode cX6_copyFrom 114 = .ok (.putfield 48, 3) := by decide +kernel
theorem dX6_copyFrom_117 : decode cX6_copyFrom 117 = .ok (.aload_n 0, 1) := by decide +kernel
theorem dX6_copyFrom_118 : decode cX6_copyFrom 118 = .ok (.aload_n 1, 1) := by decide +kernel
theorem dX6_copyFrom_119 : decode cX6_copyFrom 119 = .ok (.getfield 51, 3) := by decide +kernel
theorem dX6_copyFrom_122 : decode cX6_copyFrom 122 = .ok (.putfield 51, 3) := by decide +kernel
theorem dX6_copyFrom_125 : decode cX6_copyFrom 125 = .ok (.return_, 1) := by decide +kernel
theorem dX6_insert_0 : decode cX6_insert 0 = .ok (.aload_n 0, 1) := by decide +kernel
theorem dX6_insert_1 : decode cX6_insert 1 = .ok (.invokevirtual 73, 3) := by decide +kernel
theorem dX6_insert_4 : decode cX6_insert 4 = .ok (.aload_n 0, 1) := by decide +kernel
theorem dX6_insert_5 : decode cX6_insert 5 = .ok (.iload_n 1, 1) := by decide +kernel
theorem dX6_insert_6 : decode cX6_insert 6 = .ok (.iload_n 2, 1) := by decide +kernel
theorem dX6_insert_7 : decode cX6_insert 7 = .ok (.invokevirtual 76, 3) := by decide +kernel
theorem dX6_insert_10 : decode cX6_insert 10 = .ok (.istore_n 3, 1) := by decide +kernel
theorem dX6_insert_11 : decode cX6_insert 11 = .ok (.bipush 8, 2) := by decide +kernel
theorem dX6_insert_13 : decode cX6_insert 13 = .ok (.istore 4, 2) := by decide +kernel
theorem dX6_insert_15 : decode cX6_insert 15 = .ok (.iload 4, 2) := by decide +kernel
theorem dX6_insert_17 : decode cX6_insert 17 = .ok (.bipush 64, 2) := by decide +kernel
theorem dX6_insert_19 : decode cX6_insert 19 = .ok (.if_icmp .gt 42, 3) := by decide +kernel
theorem dX6_insert_22 : decode cX6_insert 22 = .ok (.iload_n 3, 1) := by decide +kernel
theorem dX6_insert_23 : decode cX6_insert 23 = .ok (.iconst (-1), 1) := by decide +kernel
theorem dX6_insert_24 : decode cX6_insert 24 = .ok (.if_icmp .ne 28, 3) := by decide +kernel
theorem dX6_insert_27 : decode cX6_insert 27 = .ok (.iload 4, 2) := by decide +kernel
theorem dX6_insert_29 : decode cX6_insert 29 = .ok (.aload_n 0, 1) := by decide +kernel
theorem dX6_insert_30 : decode cX6_insert 30 = .ok (.getfield 64, 3) := by decide +kernel
theorem dX6_insert_33 : decode cX6_insert 33 = .ok (.if_icmp .le 19, 3) := by decide +kernel
theorem dX6_insert_36 : decode cX6_insert 36 = .ok (.aload_n 0, 1) := by decide +kernel
theorem dX6_insert_37 : decode cX6_insert 37 = .ok (.iload 4, 2) := by decide +kernel
theorem dX6_insert_39 : decode cX6_insert 39 = .ok (.invokevirtual 80, 3) := by decide +kernel
theorem dX6_insert_42 : decode cX6_insert 42 = .ok (.ifCond .eq 10, 3) := by decide +kernel
theorem dX6_insert_45 : decode cX6_insert 45 = .ok (.aload_n 0, 1) := by decide +kernel
theorem dX6_insert_46 : decode cX6_insert 46 = .ok (.iload_n 1, 1) := by decide +kernel
theorem dX6_insert_47 : decode cX6_insert 47 = .ok (.iload_n 2, 1) := by decide +kernel
theorem dX6_insert_48 : decode cX6_insert 48 = .ok (.invokevirtual 76, 3) := by decide +kernel
theorem dX6_insert_51 : decode cX6_insert 51 = .ok (.istore_n 3, 1) := by decide +kernel
theorem dX6_insert_52 : decode cX6_insert 52 = .ok (.iload 4, 2) := by decide +kernel
theorem dX6_insert_54 : decode cX6_insert 54 = .ok (.iconst 2, 1) := by decide +kernel
theorem dX6_insert_55 : decode cX6_insert 55 = .ok (.imul, 1) := by decide +kernel
theorem dX6_insert_56 : decode cX6_insert 56 = .ok (.istore 4, 2) := by decide +kernel
theorem dX6_insert_58 : decode cX6_insert 58 = .ok (.goto (-43), 3) := by decide +kernel
theorem dX6_insert_61 : decode cX6_insert 61 = .ok (.iload_n 3, 1) := by decide +kernel
theorem dX6_insert_62 : decode cX6_insert 62 = .ok (.iconst (-1), 1) := by decide +kernel
theorem dX6_insert_63 : decode cX6_insert 63 = .ok (.if_icmp .eq 13, 3) := by decide +kernel
theorem dX6_insert_66 : decode cX6_insert 66 = .ok (.aload_n 0, 1) := by decide +kernel
theorem dX6_insert_67 : decode cX6_insert 67 = .ok (.dup, 1) := by decide +kernel
theorem dX6_insert_68 : decode cX6_insert 68 = .ok (.getfield 48, 3) := by decide +kernel
theorem dX6_insert_71 : decode cX6_insert 71 = .ok (.iconst 1, 1) := by decide +kernel
theorem dX6_insert_72 : decode cX6_insert 72 = .ok (.iadd, 1) := by decide +kernel
theorem dX6_insert_73 : decode cX6_insert 73 = .ok (.putfield 48, 3) := by decide +kernel
theorem dX6_insert_76 : decode cX6_insert 76 = .ok (.iload_n 3, 1) := by decide +kernel
theorem dX6_insert_77 : decode cX6_insert 77 = .ok (.ireturn, 1) := by decide +kernel
theorem dX6_insertRow_0 : decode cX6_insertRow 0 = .ok (.iconst 0, 1) := by decide +kernel
theorem dX6_insertRow_1 : decode cX6_insertRow 1 = .ok (.istore 4, 2) := by decide +kernel
theorem dX6_insertRow_3 : decode cX6_insertRow 3 = .ok (.iconst 0, 1) := by decide +kernel
theorem dX6_insertRow_4 : decode cX6_insertRow 4 = .ok (.istore 5, 2) := by decide +kernel
theorem dX6_insertRow_6 : decode cX6_insertRow 6 = .ok (.iload 5, 2) := by decide +kernel
theorem dX6_insertRow_8 : decode cX6_insertRow 8 = .ok (.iload_n 3, 1) := by decide +kernel
theorem dX6_insertRow_9 : decode cX6_insertRow 9 = .ok (.if_icmp .ge 46, 3) := by decide +kernel
theorem dX6_insertRow_12 : decode cX6_insertRow 12 = .ok (.iload_n 1, 1) := by decide +kernel
theorem dX6_insertRow_13 : decode cX6_insertRow 13 = .ok (.iload 5, 2) := by decide +kernel
theorem dX6_insertRow_15 : decode cX6_insertRow 15 = .ok (.iload_n 2, 1) := by decide +kernel
theorem dX6_insertRow_16 : decode cX6_insertRow 16 = .ok (.imul, 1) := by decide +kernel
theorem dX6_insertRow_17 : decode cX6_insertRow 17 = .ok (.iadd, 1) := by decide +kernel
theorem dX6_insertRow_18 : decode cX6_insertRow 18 = .ok (.istore 6, 2) := by decide +kernel
theorem dX6_insertRow_20 : decode cX6_insertRow 20 = .ok (.aload_n 0, 1) := by decide +kernel
theorem dX6_insertRow_21 : decode cX6_insertRow 21 = .ok (.iload 6, 2) := by decide +kernel
theorem dX6_insertRow_23 : decode cX6_insertRow 23 = .ok (.invokevirtual 84, 3) := by decide +kernel
theorem dX6_insertRow_26 : decode cX6_insertRow 26 = .ok (.iconst (-1), 1) := by decide +kernel
theorem dX6_insertRow_27 : decode cX6_insertRow 27 = .ok (.if_icmp .eq 6, 3) := by decide +kernel
theorem dX6_insertRow_30 : decode cX6_insertRow 30 = .ok (.goto 19, 3) := by decide +kernel
theorem dX6_insertRow_33 : decode cX6_insertRow 33 = .ok (.aload_n 0, 1) := by decide +kernel
theorem dX6_insertRow_34 : decode cX6_insertRow 34 = .ok (.iload 6, 2) := by decide +kernel
theorem dX6_insertRow_36 : decode cX6_insertRow 36 = .ok (.iconst 0, 1) := by decide +kernel
theorem dX6_insertRow_37 : decode cX6_insertRow 37 = .ok (.invokevirtual 88, 3) := by decide +kernel
theorem dX6_insertRow_40 : decode cX6_insertRow 40 = .ok (.iconst (-1), 1) := by decide +kernel
theorem dX6_insertRow_41 : decode cX6_insertRow 41 = .ok (.if_icmp .ne 5, 3) := by decide +kernel
theorem dX6_insertRow_44 : decode cX6_insertRow 44 = .ok (.iconst (-1), 1) := by decide +kernel
theorem dX6_insertRow_45 : decode cX6_insertRow 45 = .ok (.ireturn, 1) := by decide +kernel
theorem dX6_insertRow_46 : decode cX6_insertRow 46 = .ok (.iinc 4 1, 3) := by decide +kernel
theorem dX6_insertRow_49 : decode cX6_insertRow 49 = .ok (.iinc 5 1, 3) := by decide +kernel
theorem dX6_insertRow_52 : decode cX6_insertRow 52 = .ok (.goto (-46), 3) := by decide +kernel
theorem dX6_insertRow_55 : decode cX6_insertRow 55 = .ok (.iload 4, 2) := by decide +kernel
theorem dX6_insertRow_57 : decode cX6_insertRow 57 = .ok (.ireturn, 1) := by decide +kernel
theorem dX6_store_0 : decode cX6_store 0 = .ok (.aload_n 0, 1) := by decide +kernel
theorem dX6_store_1 : decode cX6_store 1 = .ok (.iload_n 1, 1) := by decide +kernel
theorem dX6_store_2 : decode cX6_store 2 = .ok (.invokevirtual 84, 3) := by decide +kernel
theorem dX6_store_5 : decode cX6_store 5 = .ok (.istore_n 3, 1) := by decide +kernel
theorem dX6_store_6 : decode cX6_store 6 = .ok (.aload_n 0, 1) := by decide +kernel
theorem dX6_store_7 : decode cX6_store 7 = .ok (.iload_n 3, 1) := by decide +kernel
theorem dX6_store_8 : decode cX6_store 8 = .ok (.invokevirtual 91, 3) := by decide +kernel
theorem dX6_store_11 : decode cX6_store 11 = .ok (.ifCond .eq 12, 3) := by decide +kernel
theorem dX6_store_14 : decode cX6_store 14 = .ok (.aload_n 0, 1) := by decide +kernel
theorem dX6_store_15 : decode cX6_store 15 = .ok (.getfield 15, 3) := by decide +kernel
theorem dX6_store_18 : decode cX6_store 18 = .ok (.iload_n 3, 1) := by decide +kernel
theorem dX6_store_19 : decode cX6_store 19 = .ok (.iload_n 2, 1) := by decide +kernel
theorem dX6_store_20 : decode cX6_store 20 = .ok (.iastore, 1) := by decide +kernel
theorem dX6_store_21 : decode cX6_store 21 = .ok (.iconst 1, 1) := by decide +kernel
theorem dX6_store_22 : decode cX6_store 22 = .ok (.ireturn, 1) := by decide +kernel
theorem dX6_store_23 : decode cX6_store 23 = .ok (.aload_n 0, 1) := by decide +kernel
theorem dX6_store_24 : decode cX6_store 24 = .ok (.iload_n 1, 1) := by decide +kernel
theorem dX6_store_25 : decode cX6_store 25 = .ok (.iload_n 2, 1) := by decide +kernel
theorem dX6_store_26 : decode cX6_store 26 = .ok (.invokevirtual 88, 3) := by decide +kernel
theorem dX6_store_29 : decode cX6_store 29 = .ok (.iconst (-1), 1) := by decide +kernel
theorem dX6_store_30 : decode cX6_store 30 = .ok (.if_icmp .eq 7, 3) := by decide +kernel
theorem dX6_store_33 : decode cX6_store 33 = .ok (.iconst 1, 1) := by decide +kernel
theorem dX6_store_34 : decode cX6_store 34 = .ok (.goto 4, 3) := by decide +kernel
theorem dX6_store_37 : decode cX6_store 37 = .ok (.iconst 0, 1) := by decide +kernel
theorem dX6_store_38 : decode cX6_store 38 = .ok (.ireturn, 1) := by decide +kernel
theorem dX6_take_0 : decode cX6_take 0 = .ok (.aload_n 0, 1) := by decide +kernel
theorem dX6_take_1 : decode cX6_take 1 = .ok (.iload_n 1, 1) := by decide +kernel
theorem dX6_take_2 : decode cX6_take 2 = .ok (.invokevirtual 84, 3) := by decide +kernel
theorem dX6_take_5 : decode cX6_take 5 = .ok (.istore_n 2, 1) := by decide +kernel
theorem dX6_take_6 : decode cX6_take 6 = .ok (.aload_n 0, 1) := by decide +kernel
theorem dX6_take_7 : decode cX6_take 7 = .ok (.iload_n 1, 1) := by decide +kernel
theorem dX6_take_8 : decode cX6_take 8 = .ok (.invokevirtual 94, 3) := by decide +kernel
theorem dX6_take_11 : decode cX6_take 11 = .ok (.istore_n 3, 1) := by decide +kernel
theorem dX6_take_12 : decode cX6_take 12 = .ok (.aload_n 0, 1) := by decide +kernel
theorem dX6_take_13 : decode cX6_take 13 = .ok (.iload_n 2, 1) := by decide +kernel
theorem dX6_take_14 : decode cX6_take 14 = .ok (.invokevirtual 91, 3) := by decide +kernel
theorem dX6_take_17 : decode cX6_take 17 = .ok (.ifCond .eq 11, 3) := by decide +kernel
theorem dX6_take_20 : decode cX6_take 20 = .ok (.aload_n 0, 1) := by decide +kernel
theorem dX6_take_21 : decode cX6_take 21 = .ok (.iload_n 3, 1) := by decide +kernel
theorem dX6_take_22 : decode cX6_take 22 = .ok (.invokevirtual 91, 3) := by decide +kernel
theorem dX6_take_25 : decode cX6_take 25 = .ok (.ifCond .ne 5, 3) := by decide +kernel
theorem dX6_take_28 : decode cX6_take 28 = .ok (.iconst (-1), 1) := by decide +kernel
theorem dX6_take_29 : decode cX6_take 29 = .ok (.ireturn, 1) := by decide +kernel
theorem dX6_take_30 : decode cX6_take 30 = .ok (.aload_n 0, 1) := by decide +kernel
theorem dX6_take_31 : decode cX6_take 31 = .ok (.getfield 15, 3) := by decide +kernel
theorem dX6_take_34 : decode cX6_take 34 = .ok (.iload_n 2, 1) := by decide +kernel
theorem dX6_take_35 : decode cX6_take 35 = .ok (.iaload, 1) := by decide +kernel
theorem dX6_take_36 : decode cX6_take 36 = .ok (.istore 4, 2) := by decide +kernel
theorem dX6_take_38 : decode cX6_take 38 = .ok (.aload_n 0, 1) := by decide +kernel
theorem dX6_take_39 : decode cX6_take 39 = .ok (.getfield 18, 3) := by decide +kernel
theorem dX6_take_42 : decode cX6_take 42 = .ok (.iload_n 3, 1) := by decide +kernel
theorem dX6_take_43 : decode cX6_take 43 = .ok (.dup2, 1) := by decide +kernel
theorem dX6_take_44 : decode cX6_take 44 = .ok (.iaload, 1) := by decide +kernel
theorem dX6_take_45 : decode cX6_take 45 = .ok (.iconst 1, 1) := by decide +kernel
theorem dX6_take_46 : decode cX6_take 46 = .ok (.aload_n 0, 1) := by decide +kernel
theorem dX6_take_47 : decode cX6_take 47 = .ok (.iload_n 2, 1) := by decide +kernel
theorem dX6_take_48 : decode cX6_take 48 = .ok (.invokevirtual 97, 3) := by decide +kernel
theorem dX6_take_51 : decode cX6_take 51 = .ok (.ishl, 1) := by decide +kernel
theorem dX6_take_52 : decode cX6_take 52 = .ok (.iconst (-1), 1) := by decide +kernel
theorem dX6_take_53 : decode cX6_take 53 = .ok (.ixor, 1) := by decide +kernel
theorem dX6_take_54 : decode cX6_take 54 = .ok (.iand, 1) := by decide +kernel
theorem dX6_take_55 : decode cX6_take 55 = .ok (.iastore, 1) := by decide +kernel
theorem dX6_take_56 : decode cX6_take 56 = .ok (.aload_n 0, 1) := by decide +kernel
theorem dX6_take_57 : decode cX6_take 57 = .ok (.getfield 9, 3) := by decide +kernel
theorem dX6_take_60 : decode cX6_take 60 = .ok (.iload_n 2, 1) := by decide +kernel
theorem dX6_take_61 : decode cX6_take 61 = .ok (.iconst (-1), 1) := by decide +kernel
theorem dX6_take_62 : decode cX6_take 62 = .ok (.iastore, 1) := by decide +kernel
theorem dX6_take_63 : decode cX6_take 63 = .ok (.aload_n 0, 1) := by decide +kernel
theorem dX6_take_64 : decode cX6_take 64 = .ok (.getfield 15, 3) := by decide +kernel
theorem dX6_take_67 : decode cX6_take 67 = .ok (.iload_n 2, 1) := by decide +kernel
theorem dX6_take_68 : decode cX6_take 68 = .ok (.iconst (-1), 1) := by decide +kernel
theorem dX6_take_69 : decode cX6_take 69 = .ok (.iastore, 1) := by decide +kernel
theorem dX6_take_70 : decode cX6_take 70 = .ok (.aload_n 0, 1) := by decide +kernel
theorem dX6_take_71 : decode cX6_take 71 = .ok (.dup, 1) := by decide +kernel
theorem dX6_take_72 : decode cX6_take 72 = .ok (.getfield 67, 3) := by decide +kernel
theorem dX6_take_75 : decode cX6_take 75 = .ok (.iconst 1, 1) := by decide +kernel
theorem dX6_take_76 : decode cX6_take 76 = .ok (.isub, 1) := by decide +kernel
theorem dX6_take_77 : decode cX6_take 77 = .ok (.putfield 67, 3) := by decide +kernel
theorem dX6_take_80 : decode cX6_take 80 = .ok (.aload_n 0, 1) := by decide +kernel
theorem dX6_take_81 : decode cX6_take 81 = .ok (.dup, 1) := by decide +kernel
theorem dX6_take_82 : decode cX6_take 82 = .ok (.getfield 51, 3) := by decide +kernel
theorem dX6_take_85 : decode cX6_take 85 = .ok (.iconst 1, 1) := by decide +kernel
theorem dX6_take_86 : decode cX6_take 86 = .ok (.iadd, 1) := by decide +kernel
theorem dX6_take_87 : decode cX6_take 87 = .ok (.putfield 51, 3) := by decide +kernel
theorem dX6_take_90 : decode cX6_take 90 = .ok (.aload_n 0, 1) := by decide +kernel
theorem dX6_take_91 : decode cX6_take 91 = .ok (.getfield 38, 3) := by decide +kernel
theorem dX6_take_94 : decode cX6_take 94 = .ok (.ifCond .eq 8, 3) := by decide +kernel
theorem dX6_take_97 : decode cX6_take 97 = .ok (.aload_n 0, 1) := by decide +kernel
theorem dX6_take_98 : decode cX6_take 98 = .ok (.iload_n 2, 1) := by decide +kernel
theorem dX6_take_99 : decode cX6_take 99 = .ok (.invokevirtual 100, 3) := by decide +kernel
theorem dX6_take_102 : decode cX6_take 102 = .ok (.iload 4, 2) := by decide +kernel
theorem dX6_take_104 : decode cX6_take 104 = .ok (.ireturn, 1) := by decide +kernel
theorem dX6_changeNear_0 : decode cX6_changeNear 0 = .ok (.aload_n 0, 1) := by decide +kernel
theorem dX6_changeNear_1 : decode cX6_changeNear 1 = .ok (.iload_n 1, 1) := by decide +kernel
theorem dX6_changeNear_2 : decode cX6_changeNear 2 = .ok (.putfield 31, 3) := by decide +kernel
theorem dX6_changeNear_5 : decode cX6_changeNear 5 = .ok (.aload_n 0, 1) := by decide +kernel
theorem dX6_changeNear_6 : decode cX6_changeNear 6 = .ok (.aload_n 0, 1) := by decide +kernel
theorem dX6_changeNear_7 : decode cX6_changeNear 7 = .ok (.getfield 64, 3) := by decide +kernel
theorem dX6_changeNear_10 : decode cX6_changeNear 10 = .ok (.invokevirtual 103, 3) := by decide +kernel
theorem dX6_changeNear_13 : decode cX6_changeNear 13 = .ok (.ireturn, 1) := by decide +kernel
theorem dX6_changeTimes_0 : decode cX6_changeTimes 0 = .ok (.aload_n 0, 1) := by decide +kernel
theorem dX6_changeTimes_1 : decode cX6_changeTimes 1 = .ok (.iload_n 1, 1) := by decide +kernel
theorem dX6_changeTimes_2 : decode cX6_changeTimes 2 = .ok (.putfield 35, 3) := by decide +kernel
theorem dX6_changeTimes_5 : decode cX6_changeTimes 5 = .ok (.aload_n 0, 1) := by decide +kernel
theorem dX6_changeTimes_6 : decode cX6_changeTimes 6 = .ok (.aload_n 0, 1) := by decide +kernel
theorem dX6_changeTimes_7 : decode cX6_changeTimes 7 = .ok (.getfield 64, 3) := by decide +kernel
theorem dX6_changeTimes_10 : decode cX6_changeTimes 10 = .ok (.invokevirtual 103, 3) := by decide +kernel
theorem dX6_changeTimes_13 : decode cX6_changeTimes 13 = .ok (.ireturn, 1) := by decide +kernel
theorem dX6_buildAnew_0 : decode cX6_buildAnew 0 = .ok (.aload_n 0, 1) := by decide +kernel
theorem dX6_buildAnew_1 : decode cX6_buildAnew 1 = .ok (.invokevirtual 73, 3) := by decide +kernel
theorem dX6_buildAnew_4 : decode cX6_buildAnew 4 = .ok (.bipush 8, 2) := by decide +kernel
theorem dX6_buildAnew_6 : decode cX6_buildAnew 6 = .ok (.istore_n 2, 1) := by decide +kernel
theorem dX6_buildAnew_7 : decode cX6_buildAnew 7 = .ok (.iload_n 2, 1) := by decide +kernel
theorem dX6_buildAnew_8 : decode cX6_buildAnew 8 = .ok (.bipush 64, 2) := by decide +kernel
theorem dX6_buildAnew_10 : decode cX6_buildAnew 10 = .ok (.if_icmp .gt 25, 3) := by decide +kernel
theorem dX6_buildAnew_13 : decode cX6_buildAnew 13 = .ok (.iload_n 2, 1) := by decide +kernel
theorem dX6_buildAnew_14 : decode cX6_buildAnew 14 = .ok (.iload_n 1, 1) := by decide +kernel
theorem dX6_buildAnew_15 : decode cX6_buildAnew 15 = .ok (.if_icmp .lt 13, 3) := by decide +kernel
theorem dX6_buildAnew_18 : decode cX6_buildAnew 18 = .ok (.aload_n 0, 1) := by decide +kernel
theorem dX6_buildAnew_19 : decode cX6_buildAnew 19 = .ok (.iload_n 2, 1) := by decide +kernel
theorem dX6_buildAnew_20 : decode cX6_buildAnew 20 = .ok (.invokevirtual 80, 3) := by decide +kernel
theorem dX6_buildAnew_23 : decode cX6_buildAnew 23 = .ok (.ifCond .eq 5, 3) := by decide +kernel
theorem dX6_buildAnew_26 : decode cX6_buildAnew 26 = .ok (.iconst 1, 1) := by decide +kernel
theorem dX6_buildAnew_27 : decode cX6_buildAnew 27 = .ok (.ireturn, 1) := by decide +kernel
theorem dX6_buildAnew_28 : decode cX6_buildAnew 28 = .ok (.iload_n 2, 1) := by decide +kernel
theorem dX6_buildAnew_29 : decode cX6_buildAnew 29 = .ok (.iconst 2, 1) := by decide +kernel
theorem dX6_buildAnew_30 : decode cX6_buildAnew 30 = .ok (.imul, 1) := by decide +kernel
theorem dX6_buildAnew_31 : decode cX6_buildAnew 31 = .ok (.istore_n 2, 1) := by decide +kernel
theorem dX6_buildAnew_32 : decode cX6_buildAnew 32 = .ok (.goto (-25), 3) := by decide +kernel
theorem dX6_buildAnew_35 : decode cX6_buildAnew 35 = .ok (.iconst 0, 1) := by decide +kernel
theorem dX6_buildAnew_36 : decode cX6_buildAnew 36 = .ok (.ireturn, 1) := by decide +kernel
theorem dX6_dropAll_0 : decode cX6_dropAll 0 = .ok (.aload_n 0, 1) := by decide +kernel
theorem dX6_dropAll_1 : decode cX6_dropAll 1 = .ok (.getfield 67, 3) := by decide +kernel
theorem dX6_dropAll_4 : decode cX6_dropAll 4 = .ok (.istore_n 1, 1) := by decide +kernel
theorem dX6_dropAll_5 : decode cX6_dropAll 5 = .ok (.aload_n 0, 1) := by decide +kernel
theorem dX6_dropAll_6 : decode cX6_dropAll 6 = .ok (.dup, 1) := by decide +kernel
theorem dX6_dropAll_7 : decode cX6_dropAll 7 = .ok (.getfield 51, 3) := by decide +kernel
theorem dX6_dropAll_10 : decode cX6_dropAll 10 = .ok (.iload_n 1, 1) := by decide +kernel
theorem dX6_dropAll_11 : decode cX6_dropAll 11 = .ok (.iadd, 1) := by decide +kernel
theorem dX6_dropAll_12 : decode cX6_dropAll 12 = .ok (.putfield 51, 3) := by decide +kernel
theorem dX6_dropAll_15 : decode cX6_dropAll 15 = .ok (.aload_n 0, 1) := by decide +kernel
theorem dX6_dropAll_16 : decode cX6_dropAll 16 = .ok (.aload_n 0, 1) := by decide +kernel
theorem dX6_dropAll_17 : decode cX6_dropAll 17 = .ok (.getfield 64, 3) := by decide +kernel
theorem dX6_dropAll_20 : decode cX6_dropAll 20 = .ok (.invokevirtual 54, 3) := by decide +kernel
theorem dX6_dropAll_23 : decode cX6_dropAll 23 = .ok (.iload_n 1, 1) := by decide +kernel
theorem dX6_dropAll_24 : decode cX6_dropAll 24 = .ok (.ireturn, 1) := by decide +kernel
theorem dX6_empty_0 : decode cX6_empty 0 = .ok (.aload_n 0, 1) := by decide +kernel
theorem dX6_empty_1 : decode cX6_empty 1 = .ok (.iload_n 1, 1) := by decide +kernel
theorem dX6_empty_2 : decode cX6_empty 2 = .ok (.putfield 64, 3) := by decide +kernel
theorem dX6_empty_5 : decode cX6_empty 5 = .ok (.aload_n 0, 1) := by decide +kernel
theorem dX6_empty_6 : decode cX6_empty 6 = .ok (.iconst 0, 1) := by decide +kernel
theorem dX6_empty_7 : decode cX6_empty 7 = .ok (.putfield 67, 3) := by decide +kernel
theorem dX6_empty_10 : decode cX6_empty 10 = .ok (.aload_n 0, 1) := by decide +kernel
theorem dX6_empty_11 : decode cX6_empty 11 = .ok (.iconst 0, 1) := by decide +kernel
theorem dX6_empty_12 : decode cX6_empty 12 = .ok (.putfield 70, 3) := by decide +kernel
theorem dX6_empty_15 : decode cX6_empty 15 = .ok (.iconst 0, 1) := by decide +kernel
theorem dX6_empty_16 : decode cX6_empty 16 = .ok (.istore_n 2, 1) := by decide +kernel
theorem dX6_empty_17 : decode cX6_empty 17 = .ok (.iload_n 2, 1) := by decide +kernel
theorem dX6_empty_18 : decode cX6_empty 18 = .ok (.bipush 64, 2) := by decide +kernel
theorem dX6_empty_20 : decode cX6_empty 20 = .ok (.if_icmp .ge 30, 3) := by decide +kernel
theorem dX6_empty_23 : decode cX6_empty 23 = .ok (.aload_n 0, 1) := by decide +kernel
theorem dX6_empty_24 : decode cX6_empty 24 = .ok (.getfield 9, 3) := by decide +kernel
theorem dX6_empty_27 : decode cX6_empty 27 = .ok (.iload_n 2, 1) := by decide +kernel
theorem dX6_empty_28 : decode cX6_empty 28 = .ok (.iconst (-1), 1) := by decide +kernel
theorem dX6_empty_29 : decode cX6_empty 29 = .ok (.iastore, 1) := by decide +kernel
theorem dX6_empty_30 : decode cX6_empty 30 = .ok (.aload_n 0, 1) := by decide +kernel
theorem dX6_empty_31 : decode cX6_empty 31 = .ok (.getfield 15, 3) := by decide +kernel
theorem dX6_empty_34 : decode cX6_empty 34 = .ok (.iload_n 2, 1) := by decide +kernel
theorem dX6_empty_35 : decode cX6_empty 35 = .ok (.iconst (-1), 1) := by decide +kernel
theorem dX6_empty_36 : decode cX6_empty 36 = .ok (.iastore, 1) := by decide +kernel
theorem dX6_empty_37 : decode cX6_empty 37 = .ok (.aload_n 0, 1) := by decide +kernel
theorem dX6_empty_38 : decode cX6_empty 38 = .ok (.getfield 18, 3) := by decide +kernel
theorem dX6_empty_41 : decode cX6_empty 41 = .ok (.iload_n 2, 1) := by decide +kernel
theorem dX6_empty_42 : decode cX6_empty 42 = .ok (.iconst 0, 1) := by decide +kernel
theorem dX6_empty_43 : decode cX6_empty 43 = .ok (.iastore, 1) := by decide +kernel
theorem dX6_empty_44 : decode cX6_empty 44 = .ok (.iinc 2 1, 3) := by decide +kernel
theorem dX6_empty_47 : decode cX6_empty 47 = .ok (.goto (-30), 3) := by decide +kernel
theorem dX6_empty_50 : decode cX6_empty 50 = .ok (.return_, 1) := by decide +kernel
theorem dX6_queueAll_0 : decode cX6_queueAll 0 = .ok (.aload_n 0, 1) := by decide +kernel
theorem dX6_queueAll_1 : decode cX6_queueAll 1 = .ok (.iconst 0, 1) := by decide +kernel
theorem dX6_queueAll_2 : decode cX6_queueAll 2 = .ok (.putfield 106, 3) := by decide +kernel
theorem dX6_queueAll_5 : decode cX6_queueAll 5 = .ok (.iconst 0, 1) := by decide +kernel
theorem dX6_queueAll_6 : decode cX6_queueAll 6 = .ok (.istore_n 1, 1) := by decide +kernel
theorem dX6_queueAll_7 : decode cX6_queueAll 7 = .ok (.iload_n 1, 1) := by decide +kernel
theorem dX6_queueAll_8 : decode cX6_queueAll 8 = .ok (.aload_n 0, 1) := by decide +kernel
theorem dX6_queueAll_9 : decode cX6_queueAll 9 = .ok (.getfield 64, 3) := by decide +kernel
theorem dX6_queueAll_12 : decode cX6_queueAll 12 = .ok (.if_icmp .ge 87, 3) := by decide +kernel
theorem dX6_queueAll_15 : decode cX6_queueAll 15 = .ok (.iload_n 1, 1) := by decide +kernel
theorem dX6_queueAll_16 : decode cX6_queueAll 16 = .ok (.aload_n 0, 1) := by decide +kernel
theorem dX6_queueAll_17 : decode cX6_queueAll 17 = .ok (.getfield 9, 3) := by decide +kernel
theorem dX6_queueAll_20 : decode cX6_queueAll 20 = .ok (.arraylength, 1) := by decide +kernel
theorem dX6_queueAll_21 : decode cX6_queueAll 21 = .ok (.if_icmp .ge 78, 3) := by decide +kernel
theorem dX6_queueAll_24 : decode cX6_queueAll 24 = .ok (.aload_n 0, 1) := by decide +kernel
theorem dX6_queueAll_25 : decode cX6_queueAll 25 = .ok (.getfield 9, 3) := by decide +kernel
theorem dX6_queueAll_28 : decode cX6_queueAll 28 = .ok (.iload_n 1, 1) := by decide +kernel
theorem dX6_queueAll_29 : decode cX6_queueAll 29 = .ok (.iaload, 1) := by decide +kernel
theorem dX6_queueAll_30 : decode cX6_queueAll 30 = .ok (.iconst (-1), 1) := by decide +kernel
theorem dX6_queueAll_31 : decode cX6_queueAll 31 = .ok (.if_icmp .eq 62, 3) := by decide +kernel
theorem dX6_queueAll_34 : decode cX6_queueAll 34 = .ok (.aload_n 0, 1) := by decide +kernel
theorem dX6_queueAll_35 : decode cX6_queueAll 35 = .ok (.getfield 106, 3) := by decide +kernel
theorem dX6_queueAll_38 : decode cX6_queueAll 38 = .ok (.ifCond .lt 55, 3) := by decide +kernel
theorem dX6_queueAll_41 : decode cX6_queueAll 41 = .ok (.aload_n 0, 1) := by decide +kernel
theorem dX6_queueAll_42 : decode cX6_queueAll 42 = .ok (.getfield 106, 3) := by decide +kernel
theorem dX6_queueAll_45 : decode cX6_queueAll 45 = .ok (.aload_n 0, 1) := by decide +kernel
theorem dX6_queueAll_46 : decode cX6_queueAll 46 = .ok (.getfield 21, 3) := by decide +kernel
theorem dX6_queueAll_49 : decode cX6_queueAll 49 = .ok (.arraylength, 1) := by decide +kernel
theorem dX6_queueAll_50 : decode cX6_queueAll 50 = .ok (.if_icmp .ge 43, 3) := by decide +kernel
theorem dX6_queueAll_53 : decode cX6_queueAll 53 = .ok (.aload_n 0, 1) := by decide +kernel
theorem dX6_queueAll_54 : decode cX6_queueAll 54 = .ok (.getfield 21, 3) := by decide +kernel
theorem dX6_queueAll_57 : decode cX6_queueAll 57 = .ok (.aload_n 0, 1) := by decide +kernel
theorem dX6_queueAll_58 : decode cX6_queueAll 58 = .ok (.getfield 106, 3) := by decide +kernel
theorem dX6_queueAll_61 : decode cX6_queueAll 61 = .ok (.aload_n 0, 1) := by decide +kernel
theorem dX6_queueAll_62 : decode cX6_queueAll 62 = .ok (.getfield 9, 3) := by decide +kernel
theorem dX6_queueAll_65 : decode cX6_queueAll 65 = .ok (.iload_n 1, 1) := by decide +kernel
theorem dX6_queueAll_66 : decode cX6_queueAll 66 = .ok (.iaload, 1) := by decide +kernel
theorem dX6_queueAll_67 : decode cX6_queueAll 67 = .ok (.iastore, 1) := by decide +kernel
theorem dX6_queueAll_68 : decode cX6_queueAll 68 = .ok (.aload_n 0, 1) := by decide +kernel
theorem dX6_queueAll_69 : decode cX6_queueAll 69 = .ok (.getfield 24, 3) := by decide +kernel
theorem dX6_queueAll_72 : decode cX6_queueAll 72 = .ok (.aload_n 0, 1) := by decide +kernel
theorem dX6_queueAll_73 : decode cX6_queueAll 73 = .ok (.getfield 106, 3) := by decide +kernel
theorem dX6_queueAll_76 : decode cX6_queueAll 76 = .ok (.aload_n 0, 1) := by decide +kernel
theorem dX6_queueAll_77 : decode cX6_queueAll 77 = .ok (.getfield 15, 3) := by decide +kernel
theorem dX6_queueAll_80 : decode cX6_queueAll 80 = .ok (.iload_n 1, 1) := by decide +kernel
theorem dX6_queueAll_81 : decode cX6_queueAll 81 = .ok (.iaload, 1) := by decide +kernel
theorem dX6_queueAll_82 : decode cX6_queueAll 82 = .ok (.iastore, 1) := by decide +kernel
theorem dX6_queueAll_83 : decode cX6_queueAll 83 = .ok (.aload_n 0, 1) := by decide +kernel
theorem dX6_queueAll_84 : decode cX6_queueAll 84 = .ok (.dup, 1) := by decide +kernel
theorem dX6_queueAll_85 : decode cX6_queueAll 85 = .ok (.getfield 106, 3) := by decide +kernel
theorem dX6_queueAll_88 : decode cX6_queueAll 88 = .ok (.iconst 1, 1) := by decide +kernel
theorem dX6_queueAll_89 : decode cX6_queueAll 89 = .ok (.iadd, 1) := by decide +kernel
theorem dX6_queueAll_90 : decode cX6_queueAll 90 = .ok (.putfield 106, 3) := by decide +kernel
theorem dX6_queueAll_93 : decode cX6_queueAll 93 = .ok (.iinc 1 1, 3) := by decide +kernel
theorem dX6_queueAll_96 : decode cX6_queueAll 96 = .ok (.goto (-89), 3) := by decide +kernel
theorem dX6_queueAll_99 : decode cX6_queueAll 99 = .ok (.return_, 1) := by decide +kernel
theorem dX6_build_0 : decode cX6_build 0 = .ok (.iload_n 1, 1) := by decide +kernel
theorem dX6_build_1 : decode cX6_build 1 = .ok (.aload_n 0, 1) := by decide +kernel
theorem dX6_build_2 : decode cX6_build 2 = .ok (.getfield 64, 3) := by decide +kernel
theorem dX6_build_5 : decode cX6_build 5 = .ok (.if_icmp .eq 13, 3) := by decide +kernel
theorem dX6_build_8 : decode cX6_build 8 = .ok (.aload_n 0, 1) := by decide +kernel
theorem dX6_build_9 : decode cX6_build 9 = .ok (.dup, 1) := by decide +kernel
theorem dX6_build_10 : decode cX6_build 10 = .ok (.getfield 45, 3) := by decide +kernel
theorem dX6_build_13 : decode cX6_build 13 = .ok (.iconst 1, 1) := by decide +kernel
theorem dX6_build_14 : decode cX6_build 14 = .ok (.iadd, 1) := by decide +kernel
theorem dX6_build_15 : decode cX6_build 15 = .ok (.putfield 45, 3) := by decide +kernel
theorem dX6_build_18 : decode cX6_build 18 = .ok (.aload_n 0, 1) := by decide +kernel
theorem dX6_build_19 : decode cX6_build 19 = .ok (.iload_n 1, 1) := by decide +kernel
theorem dX6_build_20 : decode cX6_build 20 = .ok (.invokevirtual 54, 3) := by decide +kernel
theorem dX6_build_23 : decode cX6_build 23 = .ok (.iconst 0, 1) := by decide +kernel
theorem dX6_build_24 : decode cX6_build 24 = .ok (.istore_n 2, 1) := by decide +kernel
theorem dX6_build_25 : decode cX6_build 25 = .ok (.iload_n 2, 1) := by decide +kernel
theorem dX6_build_26 : decode cX6_build 26 = .ok (.aload_n 0, 1) := by decide +kernel
theorem dX6_build_27 : decode cX6_build 27 = .ok (.getfield 106, 3) := by decide +kernel
theorem dX6_build_30 : decode cX6_build 30 = .ok (.if_icmp .ge 40, 3) := by decide +kernel
theorem dX6_build_33 : decode cX6_build 33 = .ok (.iload_n 2, 1) := by decide +kernel
theorem dX6_build_34 : decode cX6_build 34 = .ok (.aload_n 0, 1) := by decide +kernel
theorem dX6_build_35 : decode cX6_build 35 = .ok (.getfield 21, 3) := by decide +kernel
theorem dX6_build_38 : decode cX6_build 38 = .ok (.arraylength, 1) := by decide +kernel
theorem dX6_build_39 : decode cX6_build 39 = .ok (.if_icmp .ge 31, 3) := by decide +kernel
theorem dX6_build_42 : decode cX6_build 42 = .ok (.aload_n 0, 1) := by decide +kernel
theorem dX6_build_43 : decode cX6_build 43 = .ok (.aload_n 0, 1) := by decide +kernel
theorem dX6_build_44 : decode cX6_build 44 = .ok (.getfield 21, 3) := by decide +kernel
theorem dX6_build_47 : decode cX6_build 47 = .ok (.iload_n 2, 1) := by decide +kernel
theorem dX6_build_48 : decode cX6_build 48 = .ok (.iaload, 1) := by decide +kernel
theorem dX6_build_49 : decode cX6_build 49 = .ok (.aload_n 0, 1) := by decide +kernel
theorem dX6_build_50 : decode cX6_build 50 = .ok (.getfield 24, 3) := by decide +kernel
theorem dX6_build_53 : decode cX6_build 53 = .ok (.iload_n 2, 1) := by decide +kernel
theorem dX6_build_54 : decode cX6_build 54 = .ok (.iaload, 1) := by decide +kernel
theorem dX6_build_55 : decode cX6_build 55 = .ok (.invokevirtual 76, 3) := by decide +kernel
theorem dX6_build_58 : decode cX6_build 58 = .ok (.iconst (-1), 1) := by decide +kernel
theorem dX6_build_59 : decode cX6_build 59 = .ok (.if_icmp .ne 5, 3) := by decide +kernel
theorem dX6_build_62 : decode cX6_build 62 = .ok (.iconst 0, 1) := by decide +kernel
theorem dX6_build_63 : decode cX6_build 63 = .ok (.ireturn, 1) := by decide +kernel
theorem dX6_build_64 : decode cX6_build 64 = .ok (.iinc 2 1, 3) := by decide +kernel
theorem dX6_build_67 : decode cX6_build 67 = .ok (.goto (-42), 3) := by decide +kernel
theorem dX6_build_70 : decode cX6_build 70 = .ok (.iconst 1, 1) := by decide +kernel
theorem dX6_build_71 : decode cX6_build 71 = .ok (.ireturn, 1) := by decide +kernel
theorem dX6_place_0 : decode cX6_place 0 = .ok (.aload_n 0, 1) := by decide +kernel
theorem dX6_place_1 : decode cX6_place 1 = .ok (.iload_n 1, 1) := by decide +kernel
theorem dX6_place_2 : decode cX6_place 2 = .ok (.invokevirtual 94, 3) := by decide +kernel
theorem dX6_place_5 : decode cX6_place 5 = .ok (.istore_n 3, 1) := by decide +kernel
theorem dX6_place_6 : decode cX6_place 6 = .ok (.aload_n 0, 1) := by decide +kernel
theorem dX6_place_7 : decode cX6_place 7 = .ok (.iload_n 3, 1) := by decide +kernel
theorem dX6_place_8 : decode cX6_place 8 = .ok (.invokevirtual 109, 3) := by decide +kernel
theorem dX6_place_11 : decode cX6_place 11 = .ok (.istore 4, 2) := by decide +kernel
theorem dX6_place_13 : decode cX6_place 13 = .ok (.iconst 0, 1) := by decide +kernel
theorem dX6_place_14 : decode cX6_place 14 = .ok (.istore 5, 2) := by decide +kernel
theorem dX6_place_16 : decode cX6_place 16 = .ok (.iload 5, 2) := by decide +kernel
theorem dX6_place_18 : decode cX6_place 18 = .ok (.bipush 64, 2) := by decide +kernel
theorem dX6_place_20 : decode cX6_place 20 = .ok (.if_icmp .ge 51, 3) := by decide +kernel
theorem dX6_place_23 : decode cX6_place 23 = .ok (.iload 4, 2) := by decide +kernel
theorem dX6_place_25 : decode cX6_place 25 = .ok (.aload_n 0, 1) := by decide +kernel
theorem dX6_place_26 : decode cX6_place 26 = .ok (.getfield 31, 3) := by decide +kernel
theorem dX6_place_29 : decode cX6_place 29 = .ok (.if_icmp .lt 42, 3) := by decide +kernel
theorem dX6_place_32 : decode cX6_place 32 = .ok (.aload_n 0, 1) := by decide +kernel
theorem dX6_place_33 : decode cX6_place 33 = .ok (.iload_n 3, 1) := by decide +kernel
theorem dX6_place_34 : decode cX6_place 34 = .ok (.iload 4, 2) := by decide +kernel
theorem dX6_place_36 : decode cX6_place 36 = .ok (.iadd, 1) := by decide +kernel
theorem dX6_place_37 : decode cX6_place 37 = .ok (.aload_n 0, 1) := by decide +kernel
theorem dX6_place_38 : decode cX6_place 38 = .ok (.getfield 64, 3) := by decide +kernel
theorem dX6_place_41 : decode cX6_place 41 = .ok (.iconst 1, 1) := by decide +kernel
theorem dX6_place_42 : decode cX6_place 42 = .ok (.isub, 1) := by decide +kernel
theorem dX6_place_43 : decode cX6_place 43 = .ok (.iand, 1) := by decide +kernel
theorem dX6_place_44 : decode cX6_place 44 = .ok (.invokevirtual 112, 3) := by decide +kernel
theorem dX6_place_47 : decode cX6_place 47 = .ok (.istore 6, 2) := by decide +kernel
theorem dX6_place_49 : decode cX6_place 49 = .ok (.iload 6, 2) := by decide +kernel
theorem dX6_place_51 : decode cX6_place 51 = .ok (.ifCond .ne 7, 3) := by decide +kernel
theorem dX6_place_54 : decode cX6_place 54 = .ok (.iconst (-1), 1) := by decide +kernel
theorem dX6_place_55 : decode cX6_place 55 = .ok (.goto 8, 3) := by decide +kernel
theorem dX6_place_58 : decode cX6_place 58 = .ok (.iload 4, 2) := by decide +kernel
theorem dX6_place_60 : decode cX6_place 60 = .ok (.iload 6, 2) := by decide +kernel
theorem dX6_place_62 : decode cX6_place 62 = .ok (.isub, 1) := by decide +kernel
theorem dX6_place_63 : decode cX6_place 63 = .ok (.istore 4, 2) := by decide +kernel
theorem dX6_place_65 : decode cX6_place 65 = .ok (.iinc 5 1, 3) := by decide +kernel
theorem dX6_place_68 : decode cX6_place 68 = .ok (.goto (-52), 3) := by decide +kernel
theorem dX6_place_71 : decode cX6_place 71 = .ok (.iload_n 3, 1) := by decide +kernel
theorem dX6_place_72 : decode cX6_place 72 = .ok (.iload 4, 2) := by decide +kernel
theorem dX6_place_74 : decode cX6_place 74 = .ok (.iadd, 1) := by decide +kernel
theorem dX6_place_75 : decode cX6_place 75 = .ok (.aload_n 0, 1) := by decide +kernel
theorem dX6_place_76 : decode cX6_place 76 = .ok (.getfield 64, 3) := by decide +kernel
theorem dX6_place_79 : decode cX6_place 79 = .ok (.iconst 1, 1) := by decide +kernel
theorem dX6_place_80 : decode cX6_place 80 = .ok (.isub, 1) := by decide +kernel
theorem dX6_place_81 : decode cX6_place 81 = .ok (.iand, 1) := by decide +kernel
theorem dX6_place_82 : decode cX6_place 82 = .ok (.istore 5, 2) := by decide +kernel
theorem dX6_place_84 : decode cX6_place 84 = .ok (.iload 4, 2) := by decide +kernel
theorem dX6_place_86 : decode cX6_place 86 = .ok (.ifCond .lt 29, 3) := by decide +kernel
theorem dX6_place_89 : decode cX6_place 89 = .ok (.iload 4, 2) := by decide +kernel
theorem dX6_place_91 : decode cX6_place 91 = .ok (.aload_n 0, 1) := by decide +kernel
theorem dX6_place_92 : decode cX6_place 92 = .ok (.getfield 31, 3) := by decide +kernel
theorem dX6_place_95 : decode cX6_place 95 = .ok (.if_icmp .ge 20, 3) := by decide +kernel
theorem dX6_place_98 : decode cX6_place 98 = .ok (.aload_n 0, 1) := by decide +kernel
theorem dX6_place_99 : decode cX6_place 99 = .ok (.iload_n 3, 1) := by decide +kernel
theorem dX6_place_100 : decode cX6_place 100 = .ok (.invokevirtual 91, 3) := by decide +kernel
theorem dX6_place_103 : decode cX6_place 103 = .ok (.ifCond .eq 12, 3) := by decide +kernel
theorem dX6_place_106 : decode cX6_place 106 = .ok (.aload_n 0, 1) := by decide +kernel
theorem dX6_place_107 : decode cX6_place 107 = .ok (.iload 5, 2) := by decide +kernel
theorem dX6_place_109 : decode cX6_place 109 = .ok (.invokevirtual 91, 3) := by decide +kernel
theorem dX6_place_112 : decode cX6_place 112 = .ok (.ifCond .ne 5, 3) := by decide +kernel
theorem dX6_place_115 : decode cX6_place 115 = .ok (.iconst (-1), 1) := by decide +kernel
theorem dX6_place_116 : decode cX6_place 116 = .ok (.ireturn, 1) := by decide +kernel
theorem dX6_place_117 : decode cX6_place 117 = .ok (.aload_n 0, 1) := by decide +kernel
theorem dX6_place_118 : decode cX6_place 118 = .ok (.getfield 9, 3) := by decide +kernel
theorem dX6_place_121 : decode cX6_place 121 = .ok (.iload 5, 2) := by decide +kernel
theorem dX6_place_123 : decode cX6_place 123 = .ok (.iload_n 1, 1) := by decide +kernel
theorem dX6_place_124 : decode cX6_place 124 = .ok (.iastore, 1) := by decide +kernel
theorem dX6_place_125 : decode cX6_place 125 = .ok (.aload_n 0, 1) := by decide +kernel
theorem dX6_place_126 : decode cX6_place 126 = .ok (.getfield 15, 3) := by decide +kernel
theorem dX6_place_129 : decode cX6_place 129 = .ok (.iload 5, 2) := by decide +kernel
theorem dX6_place_131 : decode cX6_place 131 = .ok (.iload_n 2, 1) := by decide +kernel
theorem dX6_place_132 : decode cX6_place 132 = .ok (.iastore, 1) := by decide +kernel
theorem dX6_place_133 : decode cX6_place 133 = .ok (.aload_n 0, 1) := by decide +kernel
theorem dX6_place_134 : decode cX6_place 134 = .ok (.getfield 18, 3) := by decide +kernel
theorem dX6_place_137 : decode cX6_place 137 = .ok (.iload_n 3, 1) := by decide +kernel
theorem dX6_place_138 : decode cX6_place 138 = .ok (.dup2, 1) := by decide +kernel
theorem dX6_place_139 : decode cX6_place 139 = .ok (.iaload, 1) := by decide +kernel
theorem dX6_place_140 : decode cX6_place 140 = .ok (.iconst 1, 1) := by decide +kernel
theorem dX6_place_141 : decode cX6_place 141 = .ok (.iload 4, 2) := by decide +kernel
theorem dX6_place_143 : decode cX6_place 143 = .ok (.ishl, 1) := by decide +kernel
theorem dX6_place_144 : decode cX6_place 144 = .ok (.ior, 1) := by decide +kernel
theorem dX6_place_145 : decode cX6_place 145 = .ok (.iastore, 1) := by decide +kernel
theorem dX6_place_146 : decode cX6_place 146 = .ok (.aload_n 0, 1) := by decide +kernel
theorem dX6_place_147 : decode cX6_place 147 = .ok (.dup, 1) := by decide +kernel
theorem dX6_place_148 : decode cX6_place 148 = .ok (.getfield 67, 3) := by decide +kernel
theorem dX6_place_151 : decode cX6_place 151 = .ok (.iconst 1, 1) := by decide +kernel
theorem dX6_place_152 : decode cX6_place 152 = .ok (.iadd, 1) := by decide +kernel
theorem dX6_place_153 : decode cX6_place 153 = .ok (.putfield 67, 3) := by decide +kernel
theorem dX6_place_156 : decode cX6_place 156 = .ok (.iload 5, 2) := by decide +kernel
theorem dX6_place_158 : decode cX6_place 158 = .ok (.ireturn, 1) := by decide +kernel
theorem dX6_displaceInto_0 : decode cX6_displaceInto 0 = .ok (.aload_n 0, 1) := by decide +kernel
theorem dX6_displaceInto_1 : decode cX6_displaceInto 1 = .ok (.getfield 31, 3) := by decide +kernel
theorem dX6_displaceInto_4 : decode cX6_displaceInto 4 = .ok (.iconst 1, 1) := by decide +kernel
theorem dX6_displaceInto_5 : decode cX6_displaceInto 5 = .ok (.isub, 1) := by decide +kernel
theorem dX6_displaceInto_6 : decode cX6_displaceInto 6 = .ok (.istore_n 2, 1) := by decide +kernel
theorem dX6_displaceInto_7 : decode cX6_displaceInto 7 = .ok (.iload_n 2, 1) := by decide +kernel
theorem dX6_displaceInto_8 : decode cX6_displaceInto 8 = .ok (.iconst 1, 1) := by decide +kernel
theorem dX6_displaceInto_9 : decode cX6_displaceInto 9 = .ok (.if_icmp .lt 71, 3) := by decide +kernel
theorem dX6_displaceInto_12 : decode cX6_displaceInto 12 = .ok (.iload_n 1, 1) := by decide +kernel
theorem dX6_displaceInto_13 : decode cX6_displaceInto 13 = .ok (.iload_n 2, 1) := by decide +kernel
theorem dX6_displaceInto_14 : decode cX6_displaceInto 14 = .ok (.isub, 1) := by decide +kernel
theorem dX6_displaceInto_15 : decode cX6_displaceInto 15 = .ok (.aload_n 0, 1) := by decide +kernel
theorem dX6_displaceInto_16 : decode cX6_displaceInto 16 = .ok (.getfield 64, 3) := by decide +kernel
theorem dX6_displaceInto_19 : decode cX6_displaceInto 19 = .ok (.iconst 1, 1) := by decide +kernel
theorem dX6_displaceInto_20 : decode cX6_displaceInto 20 = .ok (.isub, 1) := by decide +kernel
theorem dX6_displaceInto_21 : decode cX6_displaceInto 21 = .ok (.iand, 1) := by decide +kernel
theorem dX6_displaceInto_22 : decode cX6_displaceInto 22 = .ok (.istore_n 3, 1) := by decide +kernel
theorem dX6_displaceInto_23 : decode cX6_displaceInto 23 = .ok (.iconst 0, 1) := by decide +kernel
theorem dX6_displaceInto_24 : decode cX6_displaceInto 24 = .ok (.istore 4, 2) := by decide +kernel
theorem dX6_displaceInto_26 : decode cX6_displaceInto 26 = .ok (.iload 4, 2) := by decide +kernel
theorem dX6_displaceInto_28 : decode cX6_displaceInto 28 = .ok (.iload_n 2, 1) := by decide +kernel
theorem dX6_displaceInto_29 : decode cX6_displaceInto 29 = .ok (.if_icmp .ge 45, 3) := by decide +kernel
theorem dX6_displaceInto_32 : decode cX6_displaceInto 32 = .ok (.aload_n 0, 1) := by decide +kernel
theorem dX6_displaceInto_33 : decode cX6_displaceInto 33 = .ok (.iload_n 3, 1) := by decide +kernel
theorem dX6_displaceInto_34 : decode cX6_displaceInto 34 = .ok (.invokevirtual 115, 3) := by decide +kernel
theorem dX6_displaceInto_37 : decode cX6_displaceInto 37 = .ok (.iload 4, 2) := by decide +kernel
theorem dX6_displaceInto_39 : decode cX6_displaceInto 39 = .ok (.ishr, 1) := by decide +kernel
theorem dX6_displaceInto_40 : decode cX6_displaceInto 40 = .ok (.iconst 1, 1) := by decide +kernel
theorem dX6_displaceInto_41 : decode cX6_displaceInto 41 = .ok (.iand, 1) := by decide +kernel
theorem dX6_displaceInto_42 : decode cX6_displaceInto 42 = .ok (.ifCond .eq 26, 3) := by decide +kernel
theorem dX6_displaceInto_45 : decode cX6_displaceInto 45 = .ok (.aload_n 0, 1) := by decide +kernel
theorem dX6_displaceInto_46 : decode cX6_displaceInto 46 = .ok (.iload_n 3, 1) := by decide +kernel
theorem dX6_displaceInto_47 : decode cX6_displaceInto 47 = .ok (.iload 4, 2) := by decide +kernel
theorem dX6_displaceInto_49 : decode cX6_displaceInto 49 = .ok (.iload_n 2, 1) := by decide +kernel
theorem dX6_displaceInto_50 : decode cX6_displaceInto 50 = .ok (.invokevirtual 118, 3) := by decide +kernel
theorem dX6_displaceInto_53 : decode cX6_displaceInto 53 = .ok (.aload_n 0, 1) := by decide +kernel
theorem dX6_displaceInto_54 : decode cX6_displaceInto 54 = .ok (.dup, 1) := by decide +kernel
theorem dX6_displaceInto_55 : decode cX6_displaceInto 55 = .ok (.getfield 70, 3) := by decide +kernel
theorem dX6_displaceInto_58 : decode cX6_displaceInto 58 = .ok (.iconst 1, 1) := by decide +kernel
theorem dX6_displaceInto_59 : decode cX6_displaceInto 59 = .ok (.iadd, 1) := by decide +kernel
theorem dX6_displaceInto_60 : decode cX6_displaceInto 60 = .ok (.putfield 70, 3) := by decide +kernel
theorem dX6_displaceInto_63 : decode cX6_displaceInto 63 = .ok (.iload_n 2, 1) := by decide +kernel
theorem dX6_displaceInto_64 : decode cX6_displaceInto 64 = .ok (.iload 4, 2) := by decide +kernel
theorem dX6_displaceInto_66 : decode cX6_displaceInto 66 = .ok (.isub, 1) := by decide +kernel
theorem dX6_displaceInto_67 : decode cX6_displaceInto 67 = .ok (.ireturn, 1) := by decide +kernel
theorem dX6_displaceInto_68 : decode cX6_displaceInto 68 = .ok (.iinc 4 1, 3) := by decide +kernel
theorem dX6_displaceInto_71 : decode cX6_displaceInto 71 = .ok (.goto (-45), 3) := by decide +kernel
theorem dX6_displaceInto_74 : decode cX6_displaceInto 74 = .ok (.iinc 2 (-1), 3) := by decide +kernel
theorem dX6_displaceInto_77 : decode cX6_displaceInto 77 = .ok (.goto (-70), 3) := by decide +kernel
theorem dX6_displaceInto_80 : decode cX6_displaceInto 80 = .ok (.iconst 0, 1) := by decide +kernel
theorem dX6_displaceInto_81 : decode cX6_displaceInto 81 = .ok (.ireturn, 1) := by decide +kernel
theorem dX6_pullFrom_0 : decode cX6_pullFrom 0 = .ok (.iload_n 1, 1) := by decide +kernel
theorem dX6_pullFrom_1 : decode cX6_pullFrom 1 = .ok (.istore_n 2, 1) := by decide +kernel
theorem dX6_pullFrom_2 : decode cX6_pullFrom 2 = .ok (.iconst 0, 1) := by decide +kernel
theorem dX6_pullFrom_3 : decode cX6_pullFrom 3 = .ok (.istore_n 3, 1) := by decide +kernel
theorem dX6_pullFrom_4 : decode cX6_pullFrom 4 = .ok (.iload_n 3, 1) := by decide +kernel
theorem dX6_pullFrom_5 : decode cX6_pullFrom 5 = .ok (.sipush 384, 3) := by decide +kernel
theorem dX6_pullFrom_8 : decode cX6_pullFrom 8 = .ok (.if_icmp .ge 44, 3) := by decide +kernel
theorem dX6_pullFrom_11 : decode cX6_pullFrom 11 = .ok (.aload_n 0, 1) := by decide +kernel
theorem dX6_pullFrom_12 : decode cX6_pullFrom 12 = .ok (.iload_n 2, 1) := by decide +kernel
theorem dX6_pullFrom_13 : decode cX6_pullFrom 13 = .ok (.invokevirtual 121, 3) := by decide +kernel
theorem dX6_pullFrom_16 : decode cX6_pullFrom 16 = .ok (.istore 4, 2) := by decide +kernel
theorem dX6_pullFrom_18 : decode cX6_pullFrom 18 = .ok (.iload 4, 2) := by decide +kernel
theorem dX6_pullFrom_20 : decode cX6_pullFrom 20 = .ok (.ifCond .ne 4, 3) := by decide +kernel
theorem dX6_pullFrom_23 : decode cX6_pullFrom 23 = .ok (.return_, 1) := by decide +kernel
theorem dX6_pullFrom_24 : decode cX6_pullFrom 24 = .ok (.aload_n 0, 1) := by decide +kernel
theorem dX6_pullFrom_25 : decode cX6_pullFrom 25 = .ok (.dup, 1) := by decide +kernel
theorem dX6_pullFrom_26 : decode cX6_pullFrom 26 = .ok (.getfield 42, 3) := by decide +kernel
theorem dX6_pullFrom_29 : decode cX6_pullFrom 29 = .ok (.iconst 1, 1) := by decide +kernel
theorem dX6_pullFrom_30 : decode cX6_pullFrom 30 = .ok (.iadd, 1) := by decide +kernel
theorem dX6_pullFrom_31 : decode cX6_pullFrom 31 = .ok (.putfield 42, 3) := by decide +kernel
theorem dX6_pullFrom_34 : decode cX6_pullFrom 34 = .ok (.iload_n 2, 1) := by decide +kernel
theorem dX6_pullFrom_35 : decode cX6_pullFrom 35 = .ok (.iload 4, 2) := by decide +kernel
theorem dX6_pullFrom_37 : decode cX6_pullFrom 37 = .ok (.iadd, 1) := by decide +kernel
theorem dX6_pullFrom_38 : decode cX6_pullFrom 38 = .ok (.aload_n 0, 1) := by decide +kernel
theorem dX6_pullFrom_39 : decode cX6_pullFrom 39 = .ok (.getfield 64, 3) := by decide +kernel
theorem dX6_pullFrom_42 : decode cX6_pullFrom 42 = .ok (.iconst 1, 1) := by decide +kernel
theorem dX6_pullFrom_43 : decode cX6_pullFrom 43 = .ok (.isub, 1) := by decide +kernel
theorem dX6_pullFrom_44 : decode cX6_pullFrom 44 = .ok (.iand, 1) := by decide +kernel
theorem dX6_pullFrom_45 : decode cX6_pullFrom 45 = .ok (.istore_n 2, 1) := by decide +kernel
theorem dX6_pullFrom_46 : decode cX6_pullFrom 46 = .ok (.iinc 3 1, 3) := by decide +kernel
theorem dX6_pullFrom_49 : decode cX6_pullFrom 49 = .ok (.goto (-45), 3) := by decide +kernel
theorem dX6_pullFrom_52 : decode cX6_pullFrom 52 = .ok (.return_, 1) := by decide +kernel
theorem dX6_pullInto_0 : decode cX6_pullInto 0 = .ok (.aload_n 0, 1) := by decide +kernel
theorem dX6_pullInto_1 : decode cX6_pullInto 1 = .ok (.getfield 31, 3) := by decide +kernel
theorem dX6_pullInto_4 : decode cX6_pullInto 4 = .ok (.iconst 1, 1) := by decide +kernel
theorem dX6_pullInto_5 : decode cX6_pullInto 5 = .ok (.isub, 1) := by decide +kernel
theorem dX6_pullInto_6 : decode cX6_pullInto 6 = .ok (.istore_n 2, 1) := by decide +kernel
theorem dX6_pullInto_7 : decode cX6_pullInto 7 = .ok (.iload_n 2, 1) := by decide +kernel
theorem dX6_pullInto_8 : decode cX6_pullInto 8 = .ok (.ifCond .lt 66, 3) := by decide +kernel
theorem dX6_pullInto_11 : decode cX6_pullInto 11 = .ok (.iload_n 1, 1) := by decide +kernel
theorem dX6_pullInto_12 : decode cX6_pullInto 12 = .ok (.iload_n 2, 1) := by decide +kernel
theorem dX6_pullInto_13 : decode cX6_pullInto 13 = .ok (.isub, 1) := by decide +kernel
theorem dX6_pullInto_14 : decode cX6_pullInto 14 = .ok (.aload_n 0, 1) := by decide +kernel
theorem dX6_pullInto_15 : decode cX6_pullInto 15 = .ok (.getfield 64, 3) := by decide +kernel
theorem dX6_pullInto_18 : decode cX6_pullInto 18 = .ok (.iconst 1, 1) := by decide +kernel
theorem dX6_pullInto_19 : decode cX6_pullInto 19 = .ok (.isub, 1) := by decide +kernel
theorem dX6_pullInto_20 : decode cX6_pullInto 20 = .ok (.iand, 1) := by decide +kernel
theorem dX6_pullInto_21 : decode cX6_pullInto 21 = .ok (.istore_n 3, 1) := by decide +kernel
theorem dX6_pullInto_22 : decode cX6_pullInto 22 = .ok (.aload_n 0, 1) := by decide +kernel
theorem dX6_pullInto_23 : decode cX6_pullInto 23 = .ok (.getfield 31, 3) := by decide +kernel
theorem dX6_pullInto_26 : decode cX6_pullInto 26 = .ok (.iconst 1, 1) := by decide +kernel
theorem dX6_pullInto_27 : decode cX6_pullInto 27 = .ok (.isub, 1) := by decide +kernel
theorem dX6_pullInto_28 : decode cX6_pullInto 28 = .ok (.istore 4, 2) := by decide +kernel
theorem dX6_pullInto_30 : decode cX6_pullInto 30 = .ok (.iload 4, 2) := by decide +kernel
theorem dX6_pullInto_32 : decode cX6_pullInto 32 = .ok (.iload_n 2, 1) := by decide +kernel
theorem dX6_pullInto_33 : decode cX6_pullInto 33 = .ok (.if_icmp .le 35, 3) := by decide +kernel
theorem dX6_pullInto_36 : decode cX6_pullInto 36 = .ok (.aload_n 0, 1) := by decide +kernel
theorem dX6_pullInto_37 : decode cX6_pullInto 37 = .ok (.iload_n 3, 1) := by decide +kernel
theorem dX6_pullInto_38 : decode cX6_pullInto 38 = .ok (.invokevirtual 115, 3) := by decide +kernel
theorem dX6_pullInto_41 : decode cX6_pullInto 41 = .ok (.iload 4, 2) := by decide +kernel
theorem dX6_pullInto_43 : decode cX6_pullInto 43 = .ok (.ishr, 1) := by decide +kernel
theorem dX6_pullInto_44 : decode cX6_pullInto 44 = .ok (.iconst 1, 1) := by decide +kernel
theorem dX6_pullInto_45 : decode cX6_pullInto 45 = .ok (.iand, 1) := by decide +kernel
theorem dX6_pullInto_46 : decode cX6_pullInto 46 = .ok (.ifCond .eq 16, 3) := by decide +kernel
theorem dX6_pullInto_49 : decode cX6_pullInto 49 = .ok (.aload_n 0, 1) := by decide +kernel
theorem dX6_pullInto_50 : decode cX6_pullInto 50 = .ok (.iload_n 3, 1) := by decide +kernel
theorem dX6_pullInto_51 : decode cX6_pullInto 51 = .ok (.iload 4, 2) := by decide +kernel
theorem dX6_pullInto_53 : decode cX6_pullInto 53 = .ok (.iload_n 2, 1) := by decide +kernel
theorem dX6_pullInto_54 : decode cX6_pullInto 54 = .ok (.invokevirtual 118, 3) := by decide +kernel
theorem dX6_pullInto_57 : decode cX6_pullInto 57 = .ok (.iload 4, 2) := by decide +kernel
theorem dX6_pullInto_59 : decode cX6_pullInto 59 = .ok (.iload_n 2, 1) := by decide +kernel
theorem dX6_pullInto_60 : decode cX6_pullInto 60 = .ok (.isub, 1) := by decide +kernel
theorem dX6_pullInto_61 : decode cX6_pullInto 61 = .ok (.ireturn, 1) := by decide +kernel
theorem dX6_pullInto_62 : decode cX6_pullInto 62 = .ok (.iinc 4 (-1), 3) := by decide +kernel
theorem dX6_pullInto_65 : decode cX6_pullInto 65 = .ok (.goto (-35), 3) := by decide +kernel
theorem dX6_pullInto_68 : decode cX6_pullInto 68 = .ok (.iinc 2 (-1), 3) := by decide +kernel
theorem dX6_pullInto_71 : decode cX6_pullInto 71 = .ok (.goto (-64), 3) := by decide +kernel
theorem dX6_pullInto_74 : decode cX6_pullInto 74 = .ok (.iconst 0, 1) := by decide +kernel
theorem dX6_pullInto_75 : decode cX6_pullInto 75 = .ok (.ireturn, 1) := by decide +kernel
theorem dX6_shift_0 : decode cX6_shift 0 = .ok (.iload_n 1, 1) := by decide +kernel
theorem dX6_shift_1 : decode cX6_shift 1 = .ok (.iload_n 2, 1) := by decide +kernel
theorem dX6_shift_2 : decode cX6_shift 2 = .ok (.iadd, 1) := by decide +kernel
theorem dX6_shift_3 : decode cX6_shift 3 = .ok (.aload_n 0, 1) := by decide +kernel
theorem dX6_shift_4 : decode cX6_shift 4 = .ok (.getfield 64, 3) := by decide +kernel
theorem dX6_shift_7 : decode cX6_shift 7 = .ok (.iconst 1, 1) := by decide +kernel
theorem dX6_shift_8 : decode cX6_shift 8 = .ok (.isub, 1) := by decide +kernel
theorem dX6_shift_9 : decode cX6_shift 9 = .ok (.iand, 1) := by decide +kernel
theorem dX6_shift_10 : decode cX6_shift 10 = .ok (.istore 4, 2) := by decide +kernel
theorem dX6_shift_12 : decode cX6_shift 12 = .ok (.iload_n 1, 1) := by decide +kernel
theorem dX6_shift_13 : decode cX6_shift 13 = .ok (.iload_n 3, 1) := by decide +kernel
theorem dX6_shift_14 : decode cX6_shift 14 = .ok (.iadd, 1) := by decide +kernel
theorem dX6_shift_15 : decode cX6_shift 15 = .ok (.aload_n 0, 1) := by decide +kernel
theorem dX6_shift_16 : decode cX6_shift 16 = .ok (.getfield 64, 3) := by decide +kernel
theorem dX6_shift_19 : decode cX6_shift 19 = .ok (.iconst 1, 1) := by decide +kernel
theorem dX6_shift_20 : decode cX6_shift 20 = .ok (.isub, 1) := by decide +kernel
theorem dX6_shift_21 : decode cX6_shift 21 = .ok (.iand, 1) := by decide +kernel
theorem dX6_shift_22 : decode cX6_shift 22 = .ok (.istore 5, 2) := by decide +kernel
theorem dX6_shift_24 : decode cX6_shift 24 = .ok (.iload 4, 2) := by decide +kernel
theorem dX6_shift_26 : decode cX6_shift 26 = .ok (.ifCond .lt 28, 3) := by decide +kernel
theorem dX6_shift_29 : decode cX6_shift 29 = .ok (.iload 4, 2) := by decide +kernel
theorem dX6_shift_31 : decode cX6_shift 31 = .ok (.aload_n 0, 1) := by decide +kernel
theorem dX6_shift_32 : decode cX6_shift 32 = .ok (.getfield 9, 3) := by decide +kernel
theorem dX6_shift_35 : decode cX6_shift 35 = .ok (.arraylength, 1) := by decide +kernel
theorem dX6_shift_36 : decode cX6_shift 36 = .ok (.if_icmp .ge 18, 3) := by decide +kernel
theorem dX6_shift_39 : decode cX6_shift 39 = .ok (.iload 5, 2) := by decide +kernel
theorem dX6_shift_41 : decode cX6_shift 41 = .ok (.ifCond .lt 13, 3) := by decide +kernel
theorem dX6_shift_44 : decode cX6_shift 44 = .ok (.iload 5, 2) := by decide +kernel
theorem dX6_shift_46 : decode cX6_shift 46 = .ok (.aload_n 0, 1) := by decide +kernel
theorem dX6_shift_47 : decode cX6_shift 47 = .ok (.getfield 9, 3) := by decide +kernel
theorem dX6_shift_50 : decode cX6_shift 50 = .ok (.arraylength, 1) := by decide +kernel
theorem dX6_shift_51 : decode cX6_shift 51 = .ok (.if_icmp .lt 4, 3) := by decide +kernel
theorem dX6_shift_54 : decode cX6_shift 54 = .ok (.return_, 1) := by decide +kernel
theorem dX6_shift_55 : decode cX6_shift 55 = .ok (.iload_n 1, 1) := by decide +kernel
theorem dX6_shift_56 : decode cX6_shift 56 = .ok (.ifCond .lt 12, 3) := by decide +kernel
theorem dX6_shift_59 : decode cX6_shift 59 = .ok (.iload_n 1, 1) := by decide +kernel
theorem dX6_shift_60 : decode cX6_shift 60 = .ok (.aload_n 0, 1) := by decide +kernel
theorem dX6_shift_61 : decode cX6_shift 61 = .ok (.getfield 18, 3) := by decide +kernel
theorem dX6_shift_64 : decode cX6_shift 64 = .ok (.arraylength, 1) := by decide +kernel
theorem dX6_shift_65 : decode cX6_shift 65 = .ok (.if_icmp .lt 4, 3) := by decide +kernel
theorem dX6_shift_68 : decode cX6_shift 68 = .ok (.return_, 1) := by decide +kernel
theorem dX6_shift_69 : decode cX6_shift 69 = .ok (.aload_n 0, 1) := by decide +kernel
theorem dX6_shift_70 : decode cX6_shift 70 = .ok (.getfield 9, 3) := by decide +kernel
theorem dX6_shift_73 : decode cX6_shift 73 = .ok (.iload 5, 2) := by decide +kernel
theorem dX6_shift_75 : decode cX6_shift 75 = .ok (.aload_n 0, 1) := by decide +kernel
theorem dX6_shift_76 : decode cX6_shift 76 = .ok (.getfield 9, 3) := by decide +kernel
theorem dX6_shift_79 : decode cX6_shift 79 = .ok (.iload 4, 2) := by decide +kernel
theorem dX6_shift_81 : decode cX6_shift 81 = .ok (.iaload, 1) := by decide +kernel
theorem dX6_shift_82 : decode cX6_shift 82 = .ok (.iastore, 1) := by decide +kernel
theorem dX6_shift_83 : decode cX6_shift 83 = .ok (.aload_n 0, 1) := by decide +kernel
theorem dX6_shift_84 : decode cX6_shift 84 = .ok (.getfield 15, 3) := by decide +kernel
theorem dX6_shift_87 : decode cX6_shift 87 = .ok (.iload 5, 2) := by decide +kernel
theorem dX6_shift_89 : decode cX6_shift 89 = .ok (.aload_n 0, 1) := by decide +kernel
theorem dX6_shift_90 : decode cX6_shift 90 = .ok (.getfield 15, 3) := by decide +kernel
theorem dX6_shift_93 : decode cX6_shift 93 = .ok (.iload 4, 2) := by decide +kernel
theorem dX6_shift_95 : decode cX6_shift 95 = .ok (.iaload, 1) := by decide +kernel
theorem dX6_shift_96 : decode cX6_shift 96 = .ok (.iastore, 1) := by decide +kernel
theorem dX6_shift_97 : decode cX6_shift 97 = .ok (.aload_n 0, 1) := by decide +kernel
theorem dX6_shift_98 : decode cX6_shift 98 = .ok (.getfield 9, 3) := by decide +kernel
theorem dX6_shift_101 : decode cX6_shift 101 = .ok (.iload 4, 2) := by decide +kernel
theorem dX6_shift_103 : decode cX6_shift 103 = .ok (.iconst (-1), 1) := by decide +kernel
theorem dX6_shift_104 : decode cX6_shift 104 = .ok (.iastore, 1) := by decide +kernel
theorem dX6_shift_105 : decode cX6_shift 105 = .ok (.aload_n 0, 1) := by decide +kernel
theorem dX6_shift_106 : decode cX6_shift 106 = .ok (.getfield 15, 3) := by decide +kernel
theorem dX6_shift_109 : decode cX6_shift 109 = .ok (.iload 4, 2) := by decide +kernel
theorem dX6_shift_111 : decode cX6_shift 111 = .ok (.iconst (-1), 1) := by decide +kernel
theorem dX6_shift_112 : decode cX6_shift 112 = .ok (.iastore, 1) := by decide +kernel
theorem dX6_shift_113 : decode cX6_shift 113 = .ok (.aload_n 0, 1) := by decide +kernel
theorem dX6_shift_114 : decode cX6_shift 114 = .ok (.getfield 18, 3) := by decide +kernel
theorem dX6_shift_117 : decode cX6_shift 117 = .ok (.iload_n 1, 1) := by decide +kernel
theorem dX6_shift_118 : decode cX6_shift 118 = .ok (.aload_n 0, 1) := by decide +kernel
theorem dX6_shift_119 : decode cX6_shift 119 = .ok (.getfield 18, 3) := by decide +kernel
theorem dX6_shift_122 : decode cX6_shift 122 = .ok (.iload_n 1, 1) := by decide +kernel
theorem dX6_shift_123 : decode cX6_shift 123 = .ok (.iaload, 1) := by decide +kernel
theorem dX6_shift_124 : decode cX6_shift 124 = .ok (.iconst 1, 1) := by decide +kernel
theorem dX6_shift_125 : decode cX6_shift 125 = .ok (.iload_n 2, 1) := by decide +kernel
theorem dX6_shift_126 : decode cX6_shift 126 = .ok (.ishl, 1) := by decide +kernel
theorem dX6_shift_127 : decode cX6_shift 127 = .ok (.iconst (-1), 1) := by decide +kernel
theorem dX6_shift_128 : decode cX6_shift 128 = .ok (.ixor, 1) := by decide +kernel
theorem dX6_shift_129 : decode cX6_shift 129 = .ok (.iand, 1) := by decide +kernel
theorem dX6_shift_130 : decode cX6_shift 130 = .ok (.iconst 1, 1) := by decide +kernel
theorem dX6_shift_131 : decode cX6_shift 131 = .ok (.iload_n 3, 1) := by decide +kernel
theorem dX6_shift_132 : decode cX6_shift 132 = .ok (.ishl, 1) := by decide +kernel
theorem dX6_shift_133 : decode cX6_shift 133 = .ok (.ior, 1) := by decide +kernel
theorem dX6_shift_134 : decode cX6_shift 134 = .ok (.iastore, 1) := by decide +kernel
theorem dX6_shift_135 : decode cX6_shift 135 = .ok (.return_, 1) := by decide +kernel
theorem dX6_hasBucket_0 : decode cX6_hasBucket 0 = .ok (.iload_n 1, 1) := by decide +kernel
theorem dX6_hasBucket_1 : decode cX6_hasBucket 1 = .ok (.ifCond .lt 21, 3) := by decide +kernel
theorem dX6_hasBucket_4 : decode cX6_hasBucket 4 = .ok (.iload_n 1, 1) := by decide +kernel
theorem dX6_hasBucket_5 : decode cX6_hasBucket 5 = .ok (.aload_n 0, 1) := by decide +kernel
theorem dX6_hasBucket_6 : decode cX6_hasBucket 6 = .ok (.getfield 64, 3) := by decide +kernel
theorem dX6_hasBucket_9 : decode cX6_hasBucket 9 = .ok (.if_icmp .ge 13, 3) := by decide +kernel
theorem dX6_hasBucket_12 : decode cX6_hasBucket 12 = .ok (.iload_n 1, 1) := by decide +kernel
theorem dX6_hasBucket_13 : decode cX6_hasBucket 13 = .ok (.bipush 64, 2) := by decide +kernel
theorem dX6_hasBucket_15 : decode cX6_hasBucket 15 = .ok (.if_icmp .ge 7, 3) := by decide +kernel
theorem dX6_hasBucket_18 : decode cX6_hasBucket 18 = .ok (.iconst 1, 1) := by decide +kernel
theorem dX6_hasBucket_19 : decode cX6_hasBucket 19 = .ok (.goto 4, 3) := by decide +kernel
theorem dX6_hasBucket_22 : decode cX6_hasBucket 22 = .ok (.iconst 0, 1) := by decide +kernel
theorem dX6_hasBucket_23 : decode cX6_hasBucket 23 = .ok (.ireturn, 1) := by decide +kernel
theorem dX6_keyIn_0 : decode cX6_keyIn 0 = .ok (.iload_n 1, 1) := by decide +kernel
theorem dX6_keyIn_1 : decode cX6_keyIn 1 = .ok (.ifCond .lt 26, 3) := by decide +kernel
theorem dX6_keyIn_4 : decode cX6_keyIn 4 = .ok (.iload_n 1, 1) := by decide +kernel
theorem dX6_keyIn_5 : decode cX6_keyIn 5 = .ok (.aload_n 0, 1) := by decide +kernel
theorem dX6_keyIn_6 : decode cX6_keyIn 6 = .ok (.getfield 64, 3) := by decide +kernel
theorem dX6_keyIn_9 : decode cX6_keyIn 9 = .ok (.if_icmp .ge 18, 3) := by decide +kernel
theorem dX6_keyIn_12 : decode cX6_keyIn 12 = .ok (.iload_n 1, 1) := by decide +kernel
theorem dX6_keyIn_13 : decode cX6_keyIn 13 = .ok (.bipush 64, 2) := by decide +kernel
theorem dX6_keyIn_15 : decode cX6_keyIn 15 = .ok (.if_icmp .ge 12, 3) := by decide +kernel
theorem dX6_keyIn_18 : decode cX6_keyIn 18 = .ok (.aload_n 0, 1) := by decide +kernel
theorem dX6_keyIn_19 : decode cX6_keyIn 19 = .ok (.getfield 9, 3) := by decide +kernel
theorem dX6_keyIn_22 : decode cX6_keyIn 22 = .ok (.iload_n 1, 1) := by decide +kernel
theorem dX6_keyIn_23 : decode cX6_keyIn 23 = .ok (.iaload, 1) := by decide +kernel
theorem dX6_keyIn_24 : decode cX6_keyIn 24 = .ok (.goto 4, 3) := by decide +kernel
theorem dX6_keyIn_27 : decode cX6_keyIn 27 = .ok (.iconst (-1), 1) := by decide +kernel
theorem dX6_keyIn_28 : decode cX6_keyIn 28 = .ok (.ireturn, 1) := by decide +kernel
theorem dX6_valueIn_0 : decode cX6_valueIn 0 = .ok (.iload_n 1, 1) := by decide +kernel
theorem dX6_valueIn_1 : decode cX6_valueIn 1 = .ok (.ifCond .lt 26, 3) := by decide +kernel
theorem dX6_valueIn_4 : decode cX6_valueIn 4 = .ok (.iload_n 1, 1) := by decide +kernel
theorem dX6_valueIn_5 : decode cX6_valueIn 5 = .ok (.aload_n 0, 1) := by decide +kernel
theorem dX6_valueIn_6 : decode cX6_valueIn 6 = .ok (.getfield 64, 3) := by decide +kernel
theorem dX6_valueIn_9 : decode cX6_valueIn 9 = .ok (.if_icmp .ge 18, 3) := by decide +kernel
theorem dX6_valueIn_12 : decode cX6_valueIn 12 = .ok (.iload_n 1, 1) := by decide +kernel
theorem dX6_valueIn_13 : decode cX6_valueIn 13 = .ok (.bipush 64, 2) := by decide +kernel
theorem dX6_valueIn_15 : decode cX6_valueIn 15 = .ok (.if_icmp .ge 12, 3) := by decide +kernel
theorem dX6_valueIn_18 : decode cX6_valueIn 18 = .ok (.aload_n 0, 1) := by decide +kernel
theorem dX6_valueIn_19 : decode cX6_valueIn 19 = .ok (.getfield 15, 3) := by decide +kernel
theorem dX6_valueIn_22 : decode cX6_valueIn 22 = .ok (.iload_n 1, 1) := by decide +kernel
theorem dX6_valueIn_23 : decode cX6_valueIn 23 = .ok (.iaload, 1) := by decide +kernel
theorem dX6_valueIn_24 : decode cX6_valueIn 24 = .ok (.goto 4, 3) := by decide +kernel
theorem dX6_valueIn_27 : decode cX6_valueIn 27 = .ok (.iconst (-1), 1) := by decide +kernel
theorem dX6_valueIn_28 : decode cX6_valueIn 28 = .ok (.ireturn, 1) := by decide +kernel
theorem dX6_hopsIn_0 : decode cX6_hopsIn 0 = .ok (.iload_n 1, 1) := by decide +kernel
theorem dX6_hopsIn_1 : decode cX6_hopsIn 1 = .ok (.ifCond .lt 26, 3) := by decide +kernel
theorem dX6_hopsIn_4 : decode cX6_hopsIn 4 = .ok (.iload_n 1, 1) := by decide +kernel
theorem dX6_hopsIn_5 : decode cX6_hopsIn 5 = .ok (.aload_n 0, 1) := by decide +kernel
theorem dX6_hopsIn_6 : decode cX6_hopsIn 6 = .ok (.getfield 64, 3) := by decide +kernel
theorem dX6_hopsIn_9 : decode cX6_hopsIn 9 = .ok (.if_icmp .ge 18, 3) := by decide +kernel
theorem dX6_hopsIn_12 : decode cX6_hopsIn 12 = .ok (.iload_n 1, 1) := by decide +kernel
theorem dX6_hopsIn_13 : decode cX6_hopsIn 13 = .ok (.bipush 64, 2) := by decide +kernel
theorem dX6_hopsIn_15 : decode cX6_hopsIn 15 = .ok (.if_icmp .ge 12, 3) := by decide +kernel
theorem dX6_hopsIn_18 : decode cX6_hopsIn 18 = .ok (.aload_n 0, 1) := by decide +kernel
theorem dX6_hopsIn_19 : decode cX6_hopsIn 19 = .ok (.getfield 18, 3) := by decide +kernel
theorem dX6_hopsIn_22 : decode cX6_hopsIn 22 = .ok (.iload_n 1, 1) := by decide +kernel
theorem dX6_hopsIn_23 : decode cX6_hopsIn 23 = .ok (.iaload, 1) := by decide +kernel
theorem dX6_hopsIn_24 : decode cX6_hopsIn 24 = .ok (.goto 4, 3) := by decide +kernel
theorem dX6_hopsIn_27 : decode cX6_hopsIn 27 = .ok (.iconst 0, 1) := by decide +kernel
theorem dX6_hopsIn_28 : decode cX6_hopsIn 28 = .ok (.ireturn, 1) := by decide +kernel
theorem dX6_stepsToFree_0 : decode cX6_stepsToFree 0 = .ok (.iconst 0, 1) := by decide +kernel
theorem dX6_stepsToFree_1 : decode cX6_stepsToFree 1 = .ok (.istore_n 2, 1) := by decide +kernel
theorem dX6_stepsToFree_2 : decode cX6_stepsToFree 2 = .ok (.iload_n 2, 1) := by decide +kernel
theorem dX6_stepsToFree_3 : decode cX6_stepsToFree 3 = .ok (.aload_n 0, 1) := by decide +kernel
theorem dX6_stepsToFree_4 : decode cX6_stepsToFree 4 = .ok (.getfield 64, 3) := by decide +kernel
theorem dX6_stepsToFree_7 : decode cX6_stepsToFree 7 = .ok (.if_icmp .ge 29, 3) := by decide +kernel
theorem dX6_stepsToFree_10 : decode cX6_stepsToFree 10 = .ok (.aload_n 0, 1) := by decide +kernel
theorem dX6_stepsToFree_11 : decode cX6_stepsToFree 11 = .ok (.iload_n 1, 1) := by decide +kernel
theorem dX6_stepsToFree_12 : decode cX6_stepsToFree 12 = .ok (.iload_n 2, 1) := by decide +kernel
theorem dX6_stepsToFree_13 : decode cX6_stepsToFree 13 = .ok (.iadd, 1) := by decide +kernel
theorem dX6_stepsToFree_14 : decode cX6_stepsToFree 14 = .ok (.aload_n 0, 1) := by decide +kernel
theorem dX6_stepsToFree_15 : decode cX6_stepsToFree 15 = .ok (.getfield 64, 3) := by decide +kernel
theorem dX6_stepsToFree_18 : decode cX6_stepsToFree 18 = .ok (.iconst 1, 1) := by decide +kernel
theorem dX6_stepsToFree_19 : decode cX6_stepsToFree 19 = .ok (.isub, 1) := by decide +kernel
theorem dX6_stepsToFree_20 : decode cX6_stepsToFree 20 = .ok (.iand, 1) := by decide +kernel
theorem dX6_stepsToFree_21 : decode cX6_stepsToFree 21 = .ok (.invokevirtual 124, 3) := by decide +kernel
theorem dX6_stepsToFree_24 : decode cX6_stepsToFree 24 = .ok (.iconst (-1), 1) := by decide +kernel
theorem dX6_stepsToFree_25 : decode cX6_stepsToFree 25 = .ok (.if_icmp .ne 5, 3) := by decide +kernel
theorem dX6_stepsToFree_28 : decode cX6_stepsToFree 28 = .ok (.iload_n 2, 1) := by decide +kernel
theorem dX6_stepsToFree_29 : decode cX6_stepsToFree 29 = .ok (.ireturn, 1) := by decide +kernel
theorem dX6_stepsToFree_30 : decode cX6_stepsToFree 30 = .ok (.iinc 2 1, 3) := by decide +kernel
theorem dX6_stepsToFree_33 : decode cX6_stepsToFree 33 = .ok (.goto (-31), 3) := by decide +kernel
theorem dX6_stepsToFree_36 : decode cX6_stepsToFree 36 = .ok (.iconst (-1), 1) := by decide +kernel
theorem dX6_stepsToFree_37 : decode cX6_stepsToFree 37 = .ok (.ireturn, 1) := by decide +kernel
theorem dX6_longestFull_0 : decode cX6_longestFull 0 = .ok (.iconst 0, 1) := by decide +kernel
theorem dX6_longestFull_1 : decode cX6_longestFull 1 = .ok (.istore_n 1, 1) := by decide +kernel
theorem dX6_longestFull_2 : decode cX6_longestFull 2 = .ok (.iconst 0, 1) := by decide +kernel
theorem dX6_longestFull_3 : decode cX6_longestFull 3 = .ok (.istore_n 2, 1) := by decide +kernel
theorem dX6_longestFull_4 : decode cX6_longestFull 4 = .ok (.iconst 0, 1) := by decide +kernel
theorem dX6_longestFull_5 : decode cX6_longestFull 5 = .ok (.istore_n 3, 1) := by decide +kernel
theorem dX6_longestFull_6 : decode cX6_longestFull 6 = .ok (.iload_n 3, 1) := by decide +kernel
theorem dX6_longestFull_7 : decode cX6_longestFull 7 = .ok (.iconst 2, 1) := by decide +kernel
theorem dX6_longestFull_8 : decode cX6_longestFull 8 = .ok (.aload_n 0, 1) := by decide +kernel
theorem dX6_longestFull_9 : decode cX6_longestFull 9 = .ok (.getfield 64, 3) := by decide +kernel
theorem dX6_longestFull_12 : decode cX6_longestFull 12 = .ok (.imul, 1) := by decide +kernel
theorem dX6_longestFull_13 : decode cX6_longestFull 13 = .ok (.if_icmp .ge 39, 3) := by decide +kernel
theorem dX6_longestFull_16 : decode cX6_longestFull 16 = .ok (.aload_n 0, 1) := by decide +kernel
theorem dX6_longestFull_17 : decode cX6_longestFull 17 = .ok (.iload_n 3, 1) := by decide +kernel
theorem dX6_longestFull_18 : decode cX6_longestFull 18 = .ok (.aload_n 0, 1) := by decide +kernel
theorem dX6_longestFull_19 : decode cX6_longestFull 19 = .ok (.getfield 64, 3) := by decide +kernel
theorem dX6_longestFull_22 : decode cX6_longestFull 22 = .ok (.iconst 1, 1) := by decide +kernel
theorem dX6_longestFull_23 : decode cX6_longestFull 23 = .ok (.isub, 1) := by decide +kernel
theorem dX6_longestFull_24 : decode cX6_longestFull 24 = .ok (.iand, 1) := by decide +kernel
theorem dX6_longestFull_25 : decode cX6_longestFull 25 = .ok (.invokevirtual 124, 3) := by decide +kernel
theorem dX6_longestFull_28 : decode cX6_longestFull 28 = .ok (.iconst (-1), 1) := by decide +kernel
theorem dX6_longestFull_29 : decode cX6_longestFull 29 = .ok (.if_icmp .ne 7, 3) := by decide +kernel
theorem dX6_longestFull_32 : decode cX6_longestFull 32 = .ok (.iconst 0, 1) := by decide +kernel
theorem dX6_longestFull_33 : decode cX6_longestFull 33 = .ok (.goto 6, 3) := by decide +kernel
theorem dX6_longestFull_36 : decode cX6_longestFull 36 = .ok (.iload_n 2, 1) := by decide +kernel
theorem dX6_longestFull_37 : decode cX6_longestFull 37 = .ok (.iconst 1, 1) := by decide +kernel
theorem dX6_longestFull_38 : decode cX6_longestFull 38 = .ok (.iadd, 1) := by decide +kernel
theorem dX6_longestFull_39 : decode cX6_longestFull 39 = .ok (.istore_n 2, 1) := by decide +kernel
theorem dX6_longestFull_40 : decode cX6_longestFull 40 = .ok (.iload_n 1, 1) := by decide +kernel
theorem dX6_longestFull_41 : decode cX6_longestFull 41 = .ok (.iload_n 2, 1) := by decide +kernel
theorem dX6_longestFull_42 : decode cX6_longestFull 42 = .ok (.invokestatic 127, 3) := by decide +kernel
theorem dX6_longestFull_45 : decode cX6_longestFull 45 = .ok (.istore_n 1, 1) := by decide +kernel
theorem dX6_longestFull_46 : decode cX6_longestFull 46 = .ok (.iinc 3 1, 3) := by decide +kernel
theorem dX6_longestFull_49 : decode cX6_longestFull 49 = .ok (.goto (-43), 3) := by decide +kernel
theorem dX6_longestFull_52 : decode cX6_longestFull 52 = .ok (.iload_n 1, 1) := by decide +kernel
theorem dX6_longestFull_53 : decode cX6_longestFull 53 = .ok (.aload_n 0, 1) := by decide +kernel
theorem dX6_longestFull_54 : decode cX6_longestFull 54 = .ok (.getfield 64, 3) := by decide +kernel
theorem dX6_longestFull_57 : decode cX6_longestFull 57 = .ok (.invokestatic 132, 3) := by decide +kernel
theorem dX6_longestFull_60 : decode cX6_longestFull 60 = .ok (.ireturn, 1) := by decide +kernel
theorem dX6_fullest_0 : decode cX6_fullest 0 = .ok (.iconst (-1), 1) := by decide +kernel
theorem dX6_fullest_1 : decode cX6_fullest 1 = .ok (.istore_n 1, 1) := by decide +kernel
theorem dX6_fullest_2 : decode cX6_fullest 2 = .ok (.iconst 0, 1) := by decide +kernel
theorem dX6_fullest_3 : decode cX6_fullest 3 = .ok (.istore_n 2, 1) := by decide +kernel
theorem dX6_fullest_4 : decode cX6_fullest 4 = .ok (.iconst 0, 1) := by decide +kernel
theorem dX6_fullest_5 : decode cX6_fullest 5 = .ok (.istore_n 3, 1) := by decide +kernel
theorem dX6_fullest_6 : decode cX6_fullest 6 = .ok (.iload_n 3, 1) := by decide +kernel
theorem dX6_fullest_7 : decode cX6_fullest 7 = .ok (.aload_n 0, 1) := by decide +kernel
theorem dX6_fullest_8 : decode cX6_fullest 8 = .ok (.getfield 64, 3) := by decide +kernel
theorem dX6_fullest_11 : decode cX6_fullest 11 = .ok (.if_icmp .ge 30, 3) := by decide +kernel
theorem dX6_fullest_14 : decode cX6_fullest 14 = .ok (.aload_n 0, 1) := by decide +kernel
theorem dX6_fullest_15 : decode cX6_fullest 15 = .ok (.iload_n 3, 1) := by decide +kernel
theorem dX6_fullest_16 : decode cX6_fullest 16 = .ok (.invokevirtual 115, 3) := by decide +kernel
theorem dX6_fullest_19 : decode cX6_fullest 19 = .ok (.invokestatic 135, 3) := by decide +kernel
theorem dX6_fullest_22 : decode cX6_fullest 22 = .ok (.istore 4, 2) := by decide +kernel
theorem dX6_fullest_24 : decode cX6_fullest 24 = .ok (.iload 4, 2) := by decide +kernel
theorem dX6_fullest_26 : decode cX6_fullest 26 = .ok (.iload_n 2, 1) := by decide +kernel
theorem dX6_fullest_27 : decode cX6_fullest 27 = .ok (.if_icmp .le 8, 3) := by decide +kernel
theorem dX6_fullest_30 : decode cX6_fullest 30 = .ok (.iload_n 3, 1) := by decide +kernel
theorem dX6_fullest_31 : decode cX6_fullest 31 = .ok (.istore_n 1, 1) := by decide +kernel
theorem dX6_fullest_32 : decode cX6_fullest 32 = .ok (.iload 4, 2) := by decide +kernel
theorem dX6_fullest_34 : decode cX6_fullest 34 = .ok (.istore_n 2, 1) := by decide +kernel
theorem dX6_fullest_35 : decode cX6_fullest 35 = .ok (.iinc 3 1, 3) := by decide +kernel
theorem dX6_fullest_38 : decode cX6_fullest 38 = .ok (.goto (-32), 3) := by decide +kernel
theorem dX6_fullest_41 : decode cX6_fullest 41 = .ok (.iload_n 1, 1) := by decide +kernel
theorem dX6_fullest_42 : decode cX6_fullest 42 = .ok (.ireturn, 1) := by decide +kernel
theorem dX6_homeFor_0 : decode cX6_homeFor 0 = .ok (.iload_n 1, 1) := by decide +kernel
theorem dX6_homeFor_1 : decode cX6_homeFor 1 = .ok (.aload_n 0, 1) := by decide +kernel
theorem dX6_homeFor_2 : decode cX6_homeFor 2 = .ok (.getfield 35, 3) := by decide +kernel
theorem dX6_homeFor_5 : decode cX6_homeFor 5 = .ok (.imul, 1) := by decide +kernel
theorem dX6_homeFor_6 : decode cX6_homeFor 6 = .ok (.sipush 997, 3) := by decide +kernel
theorem dX6_homeFor_9 : decode cX6_homeFor 9 = .ok (.irem, 1) := by decide +kernel
theorem dX6_homeFor_10 : decode cX6_homeFor 10 = .ok (.aload_n 0, 1) := by decide +kernel
theorem dX6_homeFor_11 : decode cX6_homeFor 11 = .ok (.getfield 64, 3) := by decide +kernel
theorem dX6_homeFor_14 : decode cX6_homeFor 14 = .ok (.iconst 1, 1) := by decide +kernel
theorem dX6_homeFor_15 : decode cX6_homeFor 15 = .ok (.isub, 1) := by decide +kernel
theorem dX6_homeFor_16 : decode cX6_homeFor 16 = .ok (.iand, 1) := by decide +kernel
theorem dX6_homeFor_17 : decode cX6_homeFor 17 = .ok (.ireturn, 1) := by decide +kernel
theorem dX6_bucketWith_0 : decode cX6_bucketWith 0 = .ok (.aload_n 0, 1) := by decide +kernel
theorem dX6_bucketWith_1 : decode cX6_bucketWith 1 = .ok (.iload_n 1, 1) := by decide +kernel
theorem dX6_bucketWith_2 : decode cX6_bucketWith 2 = .ok (.invokevirtual 94, 3) := by decide +kernel
theorem dX6_bucketWith_5 : decode cX6_bucketWith 5 = .ok (.istore_n 2, 1) := by decide +kernel
theorem dX6_bucketWith_6 : decode cX6_bucketWith 6 = .ok (.iconst 0, 1) := by decide +kernel
theorem dX6_bucketWith_7 : decode cX6_bucketWith 7 = .ok (.istore_n 3, 1) := by decide +kernel
theorem dX6_bucketWith_8 : decode cX6_bucketWith 8 = .ok (.iload_n 3, 1) := by decide +kernel
theorem dX6_bucketWith_9 : decode cX6_bucketWith 9 = .ok (.aload_n 0, 1) := by decide +kernel
theorem dX6_bucketWith_10 : decode cX6_bucketWith 10 = .ok (.getfield 31, 3) := by decide +kernel
theorem dX6_bucketWith_13 : decode cX6_bucketWith 13 = .ok (.if_icmp .ge 46, 3) := by decide +kernel
theorem dX6_bucketWith_16 : decode cX6_bucketWith 16 = .ok (.iload_n 2, 1) := by decide +kernel
theorem dX6_bucketWith_17 : decode cX6_bucketWith 17 = .ok (.iload_n 3, 1) := by decide +kernel
theorem dX6_bucketWith_18 : decode cX6_bucketWith 18 = .ok (.iadd, 1) := by decide +kernel
theorem dX6_bucketWith_19 : decode cX6_bucketWith 19 = .ok (.aload_n 0, 1) := by decide +kernel
theorem dX6_bucketWith_20 : decode cX6_bucketWith 20 = .ok (.getfield 64, 3) := by decide +kernel
theorem dX6_bucketWith_23 : decode cX6_bucketWith 23 = .ok (.iconst 1, 1) := by decide +kernel
theorem dX6_bucketWith_24 : decode cX6_bucketWith 24 = .ok (.isub, 1) := by decide +kernel
theorem dX6_bucketWith_25 : decode cX6_bucketWith 25 = .ok (.iand, 1) := by decide +kernel
theorem dX6_bucketWith_26 : decode cX6_bucketWith 26 = .ok (.istore 4, 2) := by decide +kernel
theorem dX6_bucketWith_28 : decode cX6_bucketWith 28 = .ok (.aload_n 0, 1) := by decide +kernel
theorem dX6_bucketWith_29 : decode cX6_bucketWith 29 = .ok (.iload_n 2, 1) := by decide +kernel
theorem dX6_bucketWith_30 : decode cX6_bucketWith 30 = .ok (.invokevirtual 115, 3) := by decide +kernel
theorem dX6_bucketWith_33 : decode cX6_bucketWith 33 = .ok (.iload_n 3, 1) := by decide +kernel
theorem dX6_bucketWith_34 : decode cX6_bucketWith 34 = .ok (.ishr, 1) := by decide +kernel
theorem dX6_bucketWith_35 : decode cX6_bucketWith 35 = .ok (.iconst 1, 1) := by decide +kernel
theorem dX6_bucketWith_36 : decode cX6_bucketWith 36 = .ok (.iand, 1) := by decide +kernel
theorem dX6_bucketWith_37 : decode cX6_bucketWith 37 = .ok (.ifCond .eq 16, 3) := by decide +kernel
theorem dX6_bucketWith_40 : decode cX6_bucketWith 40 = .ok (.aload_n 0, 1) := by decide +kernel
theorem dX6_bucketWith_41 : decode cX6_bucketWith 41 = .ok (.iload 4, 2) := by decide +kernel
theorem dX6_bucketWith_43 : decode cX6_bucketWith 43 = .ok (.invokevirtual 124, 3) := by decide +kernel
theorem dX6_bucketWith_46 : decode cX6_bucketWith 46 = .ok (.iload_n 1, 1) := by decide +kernel
theorem dX6_bucketWith_47 : decode cX6_bucketWith 47 = .ok (.if_icmp .ne 6, 3) := by decide +kernel
theorem dX6_bucketWith_50 : decode cX6_bucketWith 50 = .ok (.iload 4, 2) := by decide +kernel
theorem dX6_bucketWith_52 : decode cX6_bucketWith 52 = .ok (.ireturn, 1) := by decide +kernel
theorem dX6_bucketWith_53 : decode cX6_bucketWith 53 = .ok (.iinc 3 1, 3) := by decide +kernel
theorem dX6_bucketWith_56 : decode cX6_bucketWith 56 = .ok (.goto (-48), 3) := by decide +kernel
theorem dX6_bucketWith_59 : decode cX6_bucketWith 59 = .ok (.iconst (-1), 1) := by decide +kernel
theorem dX6_bucketWith_60 : decode cX6_bucketWith 60 = .ok (.ireturn, 1) := by decide +kernel
theorem dX6_stepsFromHome_0 : decode cX6_stepsFromHome 0 = .ok (.aload_n 0, 1) := by decide +kernel
theorem dX6_stepsFromHome_1 : decode cX6_stepsFromHome 1 = .ok (.iload_n 1, 1) := by decide +kernel
theorem dX6_stepsFromHome_2 : decode cX6_stepsFromHome 2 = .ok (.invokevirtual 124, 3) := by decide +kernel
theorem dX6_stepsFromHome_5 : decode cX6_stepsFromHome 5 = .ok (.istore_n 2, 1) := by decide +kernel
theorem dX6_stepsFromHome_6 : decode cX6_stepsFromHome 6 = .ok (.iload_n 2, 1) := by decide +kernel
theorem dX6_stepsFromHome_7 : decode cX6_stepsFromHome 7 = .ok (.iconst (-1), 1) := by decide +kernel
theorem dX6_stepsFromHome_8 : decode cX6_stepsFromHome 8 = .ok (.if_icmp .ne 7, 3) := by decide +kernel
theorem dX6_stepsFromHome_11 : decode cX6_stepsFromHome 11 = .ok (.iconst (-1), 1) := by decide +kernel
theorem dX6_stepsFromHome_12 : decode cX6_stepsFromHome 12 = .ok (.goto 17, 3) := by decide +kernel
theorem dX6_stepsFromHome_15 : decode cX6_stepsFromHome 15 = .ok (.iload_n 1, 1) := by decide +kernel
theorem dX6_stepsFromHome_16 : decode cX6_stepsFromHome 16 = .ok (.aload_n 0, 1) := by decide +kernel
theorem dX6_stepsFromHome_17 : decode cX6_stepsFromHome 17 = .ok (.iload_n 2, 1) := by decide +kernel
theorem dX6_stepsFromHome_18 : decode cX6_stepsFromHome 18 = .ok (.invokevirtual 94, 3) := by decide +kernel
theorem dX6_stepsFromHome_21 : decode cX6_stepsFromHome 21 = .ok (.isub, 1) := by decide +kernel
theorem dX6_stepsFromHome_22 : decode cX6_stepsFromHome 22 = .ok (.aload_n 0, 1) := by decide +kernel
theorem dX6_stepsFromHome_23 : decode cX6_stepsFromHome 23 = .ok (.getfield 64, 3) := by decide +kernel
theorem dX6_stepsFromHome_26 : decode cX6_stepsFromHome 26 = .ok (.iconst 1, 1) := by decide +kernel
theorem dX6_stepsFromHome_27 : decode cX6_stepsFromHome 27 = .ok (.isub, 1) := by decide +kernel
theorem dX6_stepsFromHome_28 : decode cX6_stepsFromHome 28 = .ok (.iand, 1) := by decide +kernel
theorem dX6_stepsFromHome_29 : decode cX6_stepsFromHome 29 = .ok (.ireturn, 1) := by decide +kernel
theorem dX6_looksUntil_0 : decode cX6_looksUntil 0 = .ok (.aload_n 0, 1) := by decide +kernel
theorem dX6_looksUntil_1 : decode cX6_looksUntil 1 = .ok (.iload_n 1, 1) := by decide +kernel
theorem dX6_looksUntil_2 : decode cX6_looksUntil 2 = .ok (.invokevirtual 94, 3) := by decide +kernel
theorem dX6_looksUntil_5 : decode cX6_looksUntil 5 = .ok (.istore_n 2, 1) := by decide +kernel
theorem dX6_looksUntil_6 : decode cX6_looksUntil 6 = .ok (.iconst 0, 1) := by decide +kernel
theorem dX6_looksUntil_7 : decode cX6_looksUntil 7 = .ok (.istore_n 3, 1) := by decide +kernel
theorem dX6_looksUntil_8 : decode cX6_looksUntil 8 = .ok (.iconst 0, 1) := by decide +kernel
theorem dX6_looksUntil_9 : decode cX6_looksUntil 9 = .ok (.istore 4, 2) := by decide +kernel
theorem dX6_looksUntil_11 : decode cX6_looksUntil 11 = .ok (.iload 4, 2) := by decide +kernel
theorem dX6_looksUntil_13 : decode cX6_looksUntil 13 = .ok (.aload_n 0, 1) := by decide +kernel
theorem dX6_looksUntil_14 : decode cX6_looksUntil 14 = .ok (.getfield 31, 3) := by decide +kernel
theorem dX6_looksUntil_17 : decode cX6_looksUntil 17 = .ok (.if_icmp .ge 49, 3) := by decide +kernel
theorem dX6_looksUntil_20 : decode cX6_looksUntil 20 = .ok (.aload_n 0, 1) := by decide +kernel
theorem dX6_looksUntil_21 : decode cX6_looksUntil 21 = .ok (.iload_n 2, 1) := by decide +kernel
theorem dX6_looksUntil_22 : decode cX6_looksUntil 22 = .ok (.invokevirtual 115, 3) := by decide +kernel
theorem dX6_looksUntil_25 : decode cX6_looksUntil 25 = .ok (.iload 4, 2) := by decide +kernel
theorem dX6_looksUntil_27 : decode cX6_looksUntil 27 = .ok (.ishr, 1) := by decide +kernel
theorem dX6_looksUntil_28 : decode cX6_looksUntil 28 = .ok (.iconst 1, 1) := by decide +kernel
theorem dX6_looksUntil_29 : decode cX6_looksUntil 29 = .ok (.iand, 1) := by decide +kernel
theorem dX6_looksUntil_30 : decode cX6_looksUntil 30 = .ok (.ifCond .ne 6, 3) := by decide +kernel
theorem dX6_looksUntil_33 : decode cX6_looksUntil 33 = .ok (.goto 27, 3) := by decide +kernel
theorem dX6_looksUntil_36 : decode cX6_looksUntil 36 = .ok (.iinc 3 1, 3) := by decide +kernel
theorem dX6_looksUntil_39 : decode cX6_looksUntil 39 = .ok (.aload_n 0, 1) := by decide +kernel
theorem dX6_looksUntil_40 : decode cX6_looksUntil 40 = .ok (.iload_n 2, 1) := by decide +kernel
theorem dX6_looksUntil_41 : decode cX6_looksUntil 41 = .ok (.iload 4, 2) := by decide +kernel
theorem dX6_looksUntil_43 : decode cX6_looksUntil 43 = .ok (.iadd, 1) := by decide +kernel
theorem dX6_looksUntil_44 : decode cX6_looksUntil 44 = .ok (.aload_n 0, 1) := by decide +kernel
theorem dX6_looksUntil_45 : decode cX6_looksUntil 45 = .ok (.getfield 64, 3) := by decide +kernel
theorem dX6_looksUntil_48 : decode cX6_looksUntil 48 = .ok (.iconst 1, 1) := by decide +kernel
theorem dX6_looksUntil_49 : decode cX6_looksUntil 49 = .ok (.isub, 1) := by decide +kernel
theorem dX6_looksUntil_50 : decode cX6_looksUntil 50 = .ok (.iand, 1) := by decide +kernel
theorem dX6_looksUntil_51 : decode cX6_looksUntil 51 = .ok (.invokevirtual 124, 3) := by decide +kernel
theorem dX6_looksUntil_54 : decode cX6_looksUntil 54 = .ok (.iload_n 1, 1) := by decide +kernel
theorem dX6_looksUntil_55 : decode cX6_looksUntil 55 = .ok (.if_icmp .ne 5, 3) := by decide +kernel
theorem dX6_looksUntil_58 : decode cX6_looksUntil 58 = .ok (.iload_n 3, 1) := by decide +kernel
theorem dX6_looksUntil_59 : decode cX6_looksUntil 59 = .ok (.ireturn, 1) := by decide +kernel
theorem dX6_looksUntil_60 : decode cX6_looksUntil 60 = .ok (.iinc 4 1, 3) := by decide +kernel
theorem dX6_looksUntil_63 : decode cX6_looksUntil 63 = .ok (.goto (-52), 3) := by decide +kernel
theorem dX6_looksUntil_66 : decode cX6_looksUntil 66 = .ok (.iload_n 3, 1) := by decide +kernel
theorem dX6_looksUntil_67 : decode cX6_looksUntil 67 = .ok (.ireturn, 1) := by decide +kernel
theorem dX6_mostSteps_0 : decode cX6_mostSteps 0 = .ok (.iconst 0, 1) := by decide +kernel
theorem dX6_mostSteps_1 : decode cX6_mostSteps 1 = .ok (.istore_n 1, 1) := by decide +kernel
theorem dX6_mostSteps_2 : decode cX6_mostSteps 2 = .ok (.iconst 0, 1) := by decide +kernel
theorem dX6_mostSteps_3 : decode cX6_mostSteps 3 = .ok (.istore_n 2, 1) := by decide +kernel
theorem dX6_mostSteps_4 : decode cX6_mostSteps 4 = .ok (.iload_n 2, 1) := by decide +kernel
theorem dX6_mostSteps_5 : decode cX6_mostSteps 5 = .ok (.aload_n 0, 1) := by decide +kernel
theorem dX6_mostSteps_6 : decode cX6_mostSteps 6 = .ok (.getfield 64, 3) := by decide +kernel
theorem dX6_mostSteps_9 : decode cX6_mostSteps 9 = .ok (.if_icmp .ge 19, 3) := by decide +kernel
theorem dX6_mostSteps_12 : decode cX6_mostSteps 12 = .ok (.iload_n 1, 1) := by decide +kernel
theorem dX6_mostSteps_13 : decode cX6_mostSteps 13 = .ok (.aload_n 0, 1) := by decide +kernel
theorem dX6_mostSteps_14 : decode cX6_mostSteps 14 = .ok (.iload_n 2, 1) := by decide +kernel
theorem dX6_mostSteps_15 : decode cX6_mostSteps 15 = .ok (.invokevirtual 97, 3) := by decide +kernel
theorem dX6_mostSteps_18 : decode cX6_mostSteps 18 = .ok (.invokestatic 127, 3) := by decide +kernel
theorem dX6_mostSteps_21 : decode cX6_mostSteps 21 = .ok (.istore_n 1, 1) := by decide +kernel
theorem dX6_mostSteps_22 : decode cX6_mostSteps 22 = .ok (.iinc 2 1, 3) := by decide +kernel
theorem dX6_mostSteps_25 : decode cX6_mostSteps 25 = .ok (.goto (-21), 3) := by decide +kernel
theorem dX6_mostSteps_28 : decode cX6_mostSteps 28 = .ok (.iload_n 1, 1) := by decide +kernel
theorem dX6_mostSteps_29 : decode cX6_mostSteps 29 = .ok (.ireturn, 1) := by decide +kernel
theorem dX6_sumOfSteps_0 : decode cX6_sumOfSteps 0 = .ok (.iconst 0, 1) := by decide +kernel
theorem dX6_sumOfSteps_1 : decode cX6_sumOfSteps 1 = .ok (.istore_n 1, 1) := by decide +kernel
theorem dX6_sumOfSteps_2 : decode cX6_sumOfSteps 2 = .ok (.iconst 0, 1) := by decide +kernel
theorem dX6_sumOfSteps_3 : decode cX6_sumOfSteps 3 = .ok (.istore_n 2, 1) := by decide +kernel
theorem dX6_sumOfSteps_4 : decode cX6_sumOfSteps 4 = .ok (.iload_n 2, 1) := by decide +kernel
theorem dX6_sumOfSteps_5 : decode cX6_sumOfSteps 5 = .ok (.aload_n 0, 1) := by decide +kernel
theorem dX6_sumOfSteps_6 : decode cX6_sumOfSteps 6 = .ok (.getfield 64, 3) := by decide +kernel
theorem dX6_sumOfSteps_9 : decode cX6_sumOfSteps 9 = .ok (.if_icmp .ge 21, 3) := by decide +kernel
theorem dX6_sumOfSteps_12 : decode cX6_sumOfSteps 12 = .ok (.iload_n 1, 1) := by decide +kernel
theorem dX6_sumOfSteps_13 : decode cX6_sumOfSteps 13 = .ok (.iconst 0, 1) := by decide +kernel
theorem dX6_sumOfSteps_14 : decode cX6_sumOfSteps 14 = .ok (.aload_n 0, 1) := by decide +kernel
theorem dX6_sumOfSteps_15 : decode cX6_sumOfSteps 15 = .ok (.iload_n 2, 1) := by decide +kernel
theorem dX6_sumOfSteps_16 : decode cX6_sumOfSteps 16 = .ok (.invokevirtual 97, 3) := by decide +kernel
theorem dX6_sumOfSteps_19 : decode cX6_sumOfSteps 19 = .ok (.invokestatic 127, 3) := by decide +kernel
theorem dX6_sumOfSteps_22 : decode cX6_sumOfSteps 22 = .ok (.iadd, 1) := by decide +kernel
theorem dX6_sumOfSteps_23 : decode cX6_sumOfSteps 23 = .ok (.istore_n 1, 1) := by decide +kernel
theorem dX6_sumOfSteps_24 : decode cX6_sumOfSteps 24 = .ok (.iinc 2 1, 3) := by decide +kernel
theorem dX6_sumOfSteps_27 : decode cX6_sumOfSteps 27 = .ok (.goto (-23), 3) := by decide +kernel
theorem dX6_sumOfSteps_30 : decode cX6_sumOfSteps 30 = .ok (.iload_n 1, 1) := by decide +kernel
theorem dX6_sumOfSteps_31 : decode cX6_sumOfSteps 31 = .ok (.ireturn, 1) := by decide +kernel
theorem dX6_countBelow_0 : decode cX6_countBelow 0 = .ok (.iconst 0, 1) := by decide +kernel
theorem dX6_countBelow_1 : decode cX6_countBelow 1 = .ok (.istore_n 2, 1) := by decide +kernel
theorem dX6_countBelow_2 : decode cX6_countBelow 2 = .ok (.iconst 0, 1) := by decide +kernel
theorem dX6_countBelow_3 : decode cX6_countBelow 3 = .ok (.istore_n 3, 1) := by decide +kernel
theorem dX6_countBelow_4 : decode cX6_countBelow 4 = .ok (.iload_n 3, 1) := by decide +kernel
theorem dX6_countBelow_5 : decode cX6_countBelow 5 = .ok (.aload_n 0, 1) := by decide +kernel
theorem dX6_countBelow_6 : decode cX6_countBelow 6 = .ok (.getfield 64, 3) := by decide +kernel
theorem dX6_countBelow_9 : decode cX6_countBelow 9 = .ok (.if_icmp .ge 30, 3) := by decide +kernel
theorem dX6_countBelow_12 : decode cX6_countBelow 12 = .ok (.aload_n 0, 1) := by decide +kernel
theorem dX6_countBelow_13 : decode cX6_countBelow 13 = .ok (.iload_n 3, 1) := by decide +kernel
theorem dX6_countBelow_14 : decode cX6_countBelow 14 = .ok (.invokevirtual 124, 3) := by decide +kernel
theorem dX6_countBelow_17 : decode cX6_countBelow 17 = .ok (.iconst (-1), 1) := by decide +kernel
theorem dX6_countBelow_18 : decode cX6_countBelow 18 = .ok (.if_icmp .eq 15, 3) := by decide +kernel
theorem dX6_countBelow_21 : decode cX6_countBelow 21 = .ok (.aload_n 0, 1) := by decide +kernel
theorem dX6_countBelow_22 : decode cX6_countBelow 22 = .ok (.iload_n 3, 1) := by decide +kernel
theorem dX6_countBelow_23 : decode cX6_countBelow 23 = .ok (.invokevirtual 124, 3) := by decide +kernel
theorem dX6_countBelow_26 : decode cX6_countBelow 26 = .ok (.iload_n 1, 1) := by decide +kernel
theorem dX6_countBelow_27 : decode cX6_countBelow 27 = .ok (.if_icmp .ge 6, 3) := by decide +kernel
theorem dX6_countBelow_30 : decode cX6_countBelow 30 = .ok (.iinc 2 1, 3) := by decide +kernel
theorem dX6_countBelow_33 : decode cX6_countBelow 33 = .ok (.iinc 3 1, 3) := by decide +kernel
theorem dX6_countBelow_36 : decode cX6_countBelow 36 = .ok (.goto (-32), 3) := by decide +kernel
theorem dX6_countBelow_39 : decode cX6_countBelow 39 = .ok (.iload_n 2, 1) := by decide +kernel
theorem dX6_countBelow_40 : decode cX6_countBelow 40 = .ok (.ireturn, 1) := by decide +kernel
theorem dX6_strayEntries_0 : decode cX6_strayEntries 0 = .ok (.iconst 0, 1) := by decide +kernel
theorem dX6_strayEntries_1 : decode cX6_strayEntries 1 = .ok (.istore_n 1, 1) := by decide +kernel
theorem dX6_strayEntries_2 : decode cX6_strayEntries 2 = .ok (.iconst 0, 1) := by decide +kernel
theorem dX6_strayEntries_3 : decode cX6_strayEntries 3 = .ok (.istore_n 2, 1) := by decide +kernel
theorem dX6_strayEntries_4 : decode cX6_strayEntries 4 = .ok (.iload_n 2, 1) := by decide +kernel
theorem dX6_strayEntries_5 : decode cX6_strayEntries 5 = .ok (.aload_n 0, 1) := by decide +kernel
theorem dX6_strayEntries_6 : decode cX6_strayEntries 6 = .ok (.getfield 64, 3) := by decide +kernel
theorem dX6_strayEntries_9 : decode cX6_strayEntries 9 = .ok (.if_icmp .ge 24, 3) := by decide +kernel
theorem dX6_strayEntries_12 : decode cX6_strayEntries 12 = .ok (.aload_n 0, 1) := by decide +kernel
theorem dX6_strayEntries_13 : decode cX6_strayEntries 13 = .ok (.iload_n 2, 1) := by decide +kernel
theorem dX6_strayEntries_14 : decode cX6_strayEntries 14 = .ok (.invokevirtual 97, 3) := by decide +kernel
theorem dX6_strayEntries_17 : decode cX6_strayEntries 17 = .ok (.aload_n 0, 1) := by decide +kernel
theorem dX6_strayEntries_18 : decode cX6_strayEntries 18 = .ok (.getfield 31, 3) := by decide +kernel
theorem dX6_strayEntries_21 : decode cX6_strayEntries 21 = .ok (.if_icmp .lt 6, 3) := by decide +kernel
theorem dX6_strayEntries_24 : decode cX6_strayEntries 24 = .ok (.iinc 1 1, 3) := by decide +kernel
theorem dX6_strayEntries_27 : decode cX6_strayEntries 27 = .ok (.iinc 2 1, 3) := by decide +kernel
theorem dX6_strayEntries_30 : decode cX6_strayEntries 30 = .ok (.goto (-26), 3) := by decide +kernel
theorem dX6_strayEntries_33 : decode cX6_strayEntries 33 = .ok (.iload_n 1, 1) := by decide +kernel
theorem dX6_strayEntries_34 : decode cX6_strayEntries 34 = .ok (.ireturn, 1) := by decide +kernel
theorem dX6_wrongHops_0 : decode cX6_wrongHops 0 = .ok (.iconst 0, 1) := by decide +kernel
theorem dX6_wrongHops_1 : decode cX6_wrongHops 1 = .ok (.istore_n 1, 1) := by decide +kernel
theorem dX6_wrongHops_2 : decode cX6_wrongHops 2 = .ok (.iconst 0, 1) := by decide +kernel
theorem dX6_wrongHops_3 : decode cX6_wrongHops 3 = .ok (.istore_n 2, 1) := by decide +kernel
theorem dX6_wrongHops_4 : decode cX6_wrongHops 4 = .ok (.iload_n 2, 1) := by decide +kernel
theorem dX6_wrongHops_5 : decode cX6_wrongHops 5 = .ok (.aload_n 0, 1) := by decide +kernel
theorem dX6_wrongHops_6 : decode cX6_wrongHops 6 = .ok (.getfield 64, 3) := by decide +kernel
theorem dX6_wrongHops_9 : decode cX6_wrongHops 9 = .ok (.if_icmp .ge 109, 3) := by decide +kernel
theorem dX6_wrongHops_12 : decode cX6_wrongHops 12 = .ok (.iconst 0, 1) := by decide +kernel
theorem dX6_wrongHops_13 : decode cX6_wrongHops 13 = .ok (.istore_n 3, 1) := by decide +kernel
theorem dX6_wrongHops_14 : decode cX6_wrongHops 14 = .ok (.iload_n 3, 1) := by decide +kernel
theorem dX6_wrongHops_15 : decode cX6_wrongHops 15 = .ok (.aload_n 0, 1) := by decide +kernel
theorem dX6_wrongHops_16 : decode cX6_wrongHops 16 = .ok (.getfield 31, 3) := by decide +kernel
theorem dX6_wrongHops_19 : decode cX6_wrongHops 19 = .ok (.if_icmp .ge 77, 3) := by decide +kernel
theorem dX6_wrongHops_22 : decode cX6_wrongHops 22 = .ok (.aload_n 0, 1) := by decide +kernel
theorem dX6_wrongHops_23 : decode cX6_wrongHops 23 = .ok (.iload_n 2, 1) := by decide +kernel
theorem dX6_wrongHops_24 : decode cX6_wrongHops 24 = .ok (.iload_n 3, 1) := by decide +kernel
theorem dX6_wrongHops_25 : decode cX6_wrongHops 25 = .ok (.iadd, 1) := by decide +kernel
theorem dX6_wrongHops_26 : decode cX6_wrongHops 26 = .ok (.aload_n 0, 1) := by decide +kernel
theorem dX6_wrongHops_27 : decode cX6_wrongHops 27 = .ok (.getfield 64, 3) := by decide +kernel
theorem dX6_wrongHops_30 : decode cX6_wrongHops 30 = .ok (.iconst 1, 1) := by decide +kernel
theorem dX6_wrongHops_31 : decode cX6_wrongHops 31 = .ok (.isub, 1) := by decide +kernel
theorem dX6_wrongHops_32 : decode cX6_wrongHops 32 = .ok (.iand, 1) := by decide +kernel
theorem dX6_wrongHops_33 : decode cX6_wrongHops 33 = .ok (.invokevirtual 124, 3) := by decide +kernel
theorem dX6_wrongHops_36 : decode cX6_wrongHops 36 = .ok (.istore 4, 2) := by decide +kernel
theorem dX6_wrongHops_38 : decode cX6_wrongHops 38 = .ok (.iload 4, 2) := by decide +kernel
theorem dX6_wrongHops_40 : decode cX6_wrongHops 40 = .ok (.iconst (-1), 1) := by decide +kernel
theorem dX6_wrongHops_41 : decode cX6_wrongHops 41 = .ok (.if_icmp .eq 17, 3) := by decide +kernel
theorem dX6_wrongHops_44 : decode cX6_wrongHops 44 = .ok (.aload_n 0, 1) := by decide +kernel
theorem dX6_wrongHops_45 : decode cX6_wrongHops 45 = .ok (.iload 4, 2) := by decide +kernel
theorem dX6_wrongHops_47 : decode cX6_wrongHops 47 = .ok (.invokevirtual 94, 3) := by decide +kernel
theorem dX6_wrongHops_50 : decode cX6_wrongHops 50 = .ok (.iload_n 2, 1) := by decide +kernel
theorem dX6_wrongHops_51 : decode cX6_wrongHops 51 = .ok (.if_icmp .ne 7, 3) := by decide +kernel
theorem dX6_wrongHops_54 : decode cX6_wrongHops 54 = .ok (.iconst 1, 1) := by decide +kernel
theorem dX6_wrongHops_55 : decode cX6_wrongHops 55 = .ok (.goto 4, 3) := by decide +kernel
theorem dX6_wrongHops_58 : decode cX6_wrongHops 58 = .ok (.iconst 0, 1) := by decide +kernel
theorem dX6_wrongHops_59 : decode cX6_wrongHops 59 = .ok (.istore 5, 2) := by decide +kernel
theorem dX6_wrongHops_61 : decode cX6_wrongHops 61 = .ok (.aload_n 0, 1) := by decide +kernel
theorem dX6_wrongHops_62 : decode cX6_wrongHops 62 = .ok (.iload_n 2, 1) := by decide +kernel
theorem dX6_wrongHops_63 : decode cX6_wrongHops 63 = .ok (.invokevirtual 115, 3) := by decide +kernel
theorem dX6_wrongHops_66 : decode cX6_wrongHops 66 = .ok (.iload_n 3, 1) := by decide +kernel
theorem dX6_wrongHops_67 : decode cX6_wrongHops 67 = .ok (.ishr, 1) := by decide +kernel
theorem dX6_wrongHops_68 : decode cX6_wrongHops 68 = .ok (.iconst 1, 1) := by decide +kernel
theorem dX6_wrongHops_69 : decode cX6_wrongHops 69 = .ok (.iand, 1) := by decide +kernel
theorem dX6_wrongHops_70 : decode cX6_wrongHops 70 = .ok (.ifCond .eq 7, 3) := by decide +kernel
theorem dX6_wrongHops_73 : decode cX6_wrongHops 73 = .ok (.iconst 1, 1) := by decide +kernel
theorem dX6_wrongHops_74 : decode cX6_wrongHops 74 = .ok (.goto 4, 3) := by decide +kernel
theorem dX6_wrongHops_77 : decode cX6_wrongHops 77 = .ok (.iconst 0, 1) := by decide +kernel
theorem dX6_wrongHops_78 : decode cX6_wrongHops 78 = .ok (.istore 6, 2) := by decide +kernel
theorem dX6_wrongHops_80 : decode cX6_wrongHops 80 = .ok (.iload 5, 2) := by decide +kernel
theorem dX6_wrongHops_82 : decode cX6_wrongHops 82 = .ok (.iload 6, 2) := by decide +kernel
theorem dX6_wrongHops_84 : decode cX6_wrongHops 84 = .ok (.if_icmp .eq 6, 3) := by decide +kernel
theorem dX6_wrongHops_87 : decode cX6_wrongHops 87 = .ok (.iinc 1 1, 3) := by decide +kernel
theorem dX6_wrongHops_90 : decode cX6_wrongHops 90 = .ok (.iinc 3 1, 3) := by decide +kernel
theorem dX6_wrongHops_93 : decode cX6_wrongHops 93 = .ok (.goto (-79), 3) := by decide +kernel
theorem dX6_wrongHops_96 : decode cX6_wrongHops 96 = .ok (.iload_n 1, 1) := by decide +kernel
theorem dX6_wrongHops_97 : decode cX6_wrongHops 97 = .ok (.aload_n 0, 1) := by decide +kernel
theorem dX6_wrongHops_98 : decode cX6_wrongHops 98 = .ok (.iload_n 2, 1) := by decide +kernel
theorem dX6_wrongHops_99 : decode cX6_wrongHops 99 = .ok (.invokevirtual 115, 3) := by decide +kernel
theorem dX6_wrongHops_102 : decode cX6_wrongHops 102 = .ok (.aload_n 0, 1) := by decide +kernel
theorem dX6_wrongHops_103 : decode cX6_wrongHops 103 = .ok (.getfield 31, 3) := by decide +kernel
theorem dX6_wrongHops_106 : decode cX6_wrongHops 106 = .ok (.ishr, 1) := by decide +kernel
theorem dX6_wrongHops_107 : decode cX6_wrongHops 107 = .ok (.invokestatic 135, 3) := by decide +kernel
theorem dX6_wrongHops_110 : decode cX6_wrongHops 110 = .ok (.iadd, 1) := by decide +kernel
theorem dX6_wrongHops_111 : decode cX6_wrongHops 111 = .ok (.istore_n 1, 1) := by decide +kernel
theorem dX6_wrongHops_112 : decode cX6_wrongHops 112 = .ok (.iinc 2 1, 3) := by decide +kernel
theorem dX6_wrongHops_115 : decode cX6_wrongHops 115 = .ok (.goto (-111), 3) := by decide +kernel
theorem dX6_wrongHops_118 : decode cX6_wrongHops 118 = .ok (.iload_n 1, 1) := by decide +kernel
theorem dX6_wrongHops_119 : decode cX6_wrongHops 119 = .ok (.ireturn, 1) := by decide +kernel
theorem dX6_twins_0 : decode cX6_twins 0 = .ok (.iconst 0, 1) := by decide +kernel
theorem dX6_twins_1 : decode cX6_twins 1 = .ok (.istore_n 1, 1) := by decide +kernel
theorem dX6_twins_2 : decode cX6_twins 2 = .ok (.iconst 0, 1) := by decide +kernel
theorem dX6_twins_3 : decode cX6_twins 3 = .ok (.istore_n 2, 1) := by decide +kernel
theorem dX6_twins_4 : decode cX6_twins 4 = .ok (.iload_n 2, 1) := by decide +kernel
theorem dX6_twins_5 : decode cX6_twins 5 = .ok (.aload_n 0, 1) := by decide +kernel
theorem dX6_twins_6 : decode cX6_twins 6 = .ok (.getfield 64, 3) := by decide +kernel
theorem dX6_twins_9 : decode cX6_twins 9 = .ok (.if_icmp .ge 47, 3) := by decide +kernel
theorem dX6_twins_12 : decode cX6_twins 12 = .ok (.iconst 0, 1) := by decide +kernel
theorem dX6_twins_13 : decode cX6_twins 13 = .ok (.istore_n 3, 1) := by decide +kernel
theorem dX6_twins_14 : decode cX6_twins 14 = .ok (.iload_n 3, 1) := by decide +kernel
theorem dX6_twins_15 : decode cX6_twins 15 = .ok (.iload_n 2, 1) := by decide +kernel
theorem dX6_twins_16 : decode cX6_twins 16 = .ok (.if_icmp .ge 34, 3) := by decide +kernel
theorem dX6_twins_19 : decode cX6_twins 19 = .ok (.aload_n 0, 1) := by decide +kernel
theorem dX6_twins_20 : decode cX6_twins 20 = .ok (.iload_n 2, 1) := by decide +kernel
theorem dX6_twins_21 : decode cX6_twins 21 = .ok (.invokevirtual 124, 3) := by decide +kernel
theorem dX6_twins_24 : decode cX6_twins 24 = .ok (.iconst (-1), 1) := by decide +kernel
theorem dX6_twins_25 : decode cX6_twins 25 = .ok (.if_icmp .eq 19, 3) := by decide +kernel
theorem dX6_twins_28 : decode cX6_twins 28 = .ok (.aload_n 0, 1) := by decide +kernel
theorem dX6_twins_29 : decode cX6_twins 29 = .ok (.iload_n 2, 1) := by decide +kernel
theorem dX6_twins_30 : decode cX6_twins 30 = .ok (.invokevirtual 124, 3) := by decide +kernel
theorem dX6_twins_33 : decode cX6_twins 33 = .ok (.aload_n 0, 1) := by decide +kernel
theorem dX6_twins_34 : decode cX6_twins 34 = .ok (.iload_n 3, 1) := by decide +kernel
theorem dX6_twins_35 : decode cX6_twins 35 = .ok (.invokevirtual 124, 3) := by decide +kernel
theorem dX6_twins_38 : decode cX6_twins 38 = .ok (.if_icmp .ne 6, 3) := by decide +kernel
theorem dX6_twins_41 : decode cX6_twins 41 = .ok (.iinc 1 1, 3) := by decide +kernel
theorem dX6_twins_44 : decode cX6_twins 44 = .ok (.iinc 3 1, 3) := by decide +kernel
theorem dX6_twins_47 : decode cX6_twins 47 = .ok (.goto (-33), 3) := by decide +kernel
theorem dX6_twins_50 : decode cX6_twins 50 = .ok (.iinc 2 1, 3) := by decide +kernel
theorem dX6_twins_53 : decode cX6_twins 53 = .ok (.goto (-49), 3) := by decide +kernel
theorem dX6_twins_56 : decode cX6_twins 56 = .ok (.iload_n 1, 1) := by decide +kernel
theorem dX6_twins_57 : decode cX6_twins 57 = .ok (.ireturn, 1) := by decide +kernel
theorem dX7_init_0 : decode cX7_init 0 = .ok (.aload_n 0, 1) := by decide +kernel
theorem dX7_init_1 : decode cX7_init 1 = .ok (.invokespecial 1, 3) := by decide +kernel
theorem dX7_init_4 : decode cX7_init 4 = .ok (.aload_n 0, 1) := by decide +kernel
theorem dX7_init_5 : decode cX7_init 5 = .ok (.new 7, 3) := by decide +kernel
theorem dX7_init_8 : decode cX7_init 8 = .ok (.dup, 1) := by decide +kernel
theorem dX7_init_9 : decode cX7_init 9 = .ok (.invokespecial 9, 3) := by decide +kernel
theorem dX7_init_12 : decode cX7_init 12 = .ok (.putfield 10, 3) := by decide +kernel
theorem dX7_init_15 : decode cX7_init 15 = .ok (.aload_n 0, 1) := by decide +kernel
theorem dX7_init_16 : decode cX7_init 16 = .ok (.new 16, 3) := by decide +kernel
theorem dX7_init_19 : decode cX7_init 19 = .ok (.dup, 1) := by decide +kernel
theorem dX7_init_20 : decode cX7_init 20 = .ok (.aload_n 0, 1) := by decide +kernel
theorem dX7_init_21 : decode cX7_init 21 = .ok (.getfield 10, 3) := by decide +kernel
theorem dX7_init_24 : decode cX7_init 24 = .ok (.invokespecial 18, 3) := by decide +kernel
theorem dX7_init_27 : decode cX7_init 27 = .ok (.putfield 21, 3) := by decide +kernel
theorem dX7_init_30 : decode cX7_init 30 = .ok (.aload_n 0, 1) := by decide +kernel
theorem dX7_init_31 : decode cX7_init 31 = .ok (.new 25, 3) := by decide +kernel
theorem dX7_init_34 : decode cX7_init 34 = .ok (.dup, 1) := by decide +kernel
theorem dX7_init_35 : decode cX7_init 35 = .ok (.invokespecial 27, 3) := by decide +kernel
theorem dX7_init_38 : decode cX7_init 38 = .ok (.putfield 28, 3) := by decide +kernel
theorem dX7_init_41 : decode cX7_init 41 = .ok (.aload_n 0, 1) := by decide +kernel
theorem dX7_init_42 : decode cX7_init 42 = .ok (.new 25, 3) := by decide +kernel
theorem dX7_init_45 : decode cX7_init 45 = .ok (.dup, 1) := by decide +kernel
theorem dX7_init_46 : decode cX7_init 46 = .ok (.invokespecial 27, 3) := by decide +kernel
theorem dX7_init_49 : decode cX7_init 49 = .ok (.putfield 32, 3) := by decide +kernel
theorem dX7_init_52 : decode cX7_init 52 = .ok (.aload_n 0, 1) := by decide +kernel
theorem dX7_init_53 : decode cX7_init 53 = .ok (.new 25, 3) := by decide +kernel
theorem dX7_init_56 : decode cX7_init 56 = .ok (.dup, 1) := by decide +kernel
theorem dX7_init_57 : decode cX7_init 57 = .ok (.invokespecial 27, 3) := by decide +kernel
theorem dX7_init_60 : decode cX7_init 60 = .ok (.putfield 35, 3) := by decide +kernel
theorem dX7_init_63 : decode cX7_init 63 = .ok (.aload_n 0, 1) := by decide +kernel
theorem dX7_init_64 : decode cX7_init 64 = .ok (.iconst 0, 1) := by decide +kernel
theorem dX7_init_65 : decode cX7_init 65 = .ok (.putfield 38, 3) := by decide +kernel
theorem dX7_init_68 : decode cX7_init 68 = .ok (.aload_n 0, 1) := by decide +kernel
theorem dX7_init_69 : decode cX7_init 69 = .ok (.new 42, 3) := by decide +kernel
theorem dX7_init_72 : decode cX7_init 72 = .ok (.dup, 1) := by decide +kernel
theorem dX7_init_73 : decode cX7_init 73 = .ok (.invokespecial 44, 3) := by decide +kernel
theorem dX7_init_76 : decode cX7_init 76 = .ok (.putfield 45, 3) := by decide +kernel
theorem dX7_init_79 : decode cX7_init 79 = .ok (.aload_n 0, 1) := by decide +kernel
theorem dX7_init_80 : decode cX7_init 80 = .ok (.new 49, 3) := by decide +kernel
theorem dX7_init_83 : decode cX7_init 83 = .ok (.dup, 1) := by decide +kernel
theorem dX7_init_84 : decode cX7_init 84 = .ok (.invokespecial 51, 3) := by decide +kernel
theorem dX7_init_87 : decode cX7_init 87 = .ok (.putfield 52, 3) := by decide +kernel
theorem dX7_init_90 : decode cX7_init 90 = .ok (.aload_n 0, 1) := by decide +kernel
theorem dX7_init_91 : decode cX7_init 91 = .ok (.getfield 28, 3) := by decide +kernel
theorem dX7_init_94 : decode cX7_init 94 = .ok (.bipush 8, 2) := by decide +kernel
theorem dX7_init_96 : decode cX7_init 96 = .ok (.iconst 3, 1) := by decide +kernel
theorem dX7_init_97 : decode cX7_init 97 = .ok (.iconst 1, 1) := by decide +kernel
theorem dX7_init_98 : decode cX7_init 98 = .ok (.invokevirtual 56, 3) := by decide +kernel
theorem dX7_init_101 : decode cX7_init 101 = .ok (.aload_n 0, 1) := by decide +kernel
theorem dX7_init_102 : decode cX7_init 102 = .ok (.getfield 28, 3) := by decide +kernel
theorem dX7_init_105 : decode cX7_init 105 = .ok (.iconst 1, 1) := by decide +kernel
theorem dX7_init_106 : decode cX7_init 106 = .ok (.bipush 10, 2) := by decide +kernel
theorem dX7_init_108 : decode cX7_init 108 = .ok (.invokevirtual 60, 3) := by decide +kernel
theorem dX7_init_111 : decode cX7_init 111 = .ok (.pop, 1) := by decide +kernel
theorem dX7_init_112 : decode cX7_init 112 = .ok (.aload_n 0, 1) := by decide +kernel
theorem dX7_init_113 : decode cX7_init 113 = .ok (.getfield 28, 3) := by decide +kernel
theorem dX7_init_116 : decode cX7_init 116 = .ok (.bipush 9, 2) := by decide +kernel
theorem dX7_init_118 : decode cX7_init 118 = .ok (.bipush 11, 2) := by decide +kernel
theorem dX7_init_120 : decode cX7_init 120 = .ok (.invokevirtual 60, 3) := by decide +kernel
theorem dX7_init_123 : decode cX7_init 123 = .ok (.pop, 1) := by decide +kernel
theorem dX7_init_124 : decode cX7_init 124 = .ok (.aload_n 0, 1) := by decide +kernel
theorem dX7_init_125 : decode cX7_init 125 = .ok (.getfield 28, 3) := by decide +kernel
theorem dX7_init_128 : decode cX7_init 128 = .ok (.iconst 3, 1) := by decide +kernel
theorem dX7_init_129 : decode cX7_init 129 = .ok (.bipush 12, 2) := by decide +kernel
theorem dX7_init_131 : decode cX7_init 131 = .ok (.invokevirtual 60, 3) := by decide +kernel
theorem dX7_init_134 : decode cX7_init 134 = .ok (.pop, 1) := by decide +kernel
theorem dX7_init_135 : decode cX7_init 135 = .ok (.aload_n 0, 1) := by decide +kernel
theorem dX7_init_136 : decode cX7_init 136 = .ok (.getfield 28, 3) := by decide +kernel
theorem dX7_init_139 : decode cX7_init 139 = .ok (.bipush 17, 2) := by decide +kernel
theorem dX7_init_141 : decode cX7_init 141 = .ok (.bipush 13, 2) := by decide +kernel
theorem dX7_init_143 : decode cX7_init 143 = .ok (.invokevirtual 60, 3) := by decide +kernel
theorem dX7_init_146 : decode cX7_init 146 = .ok (.pop, 1) := by decide +kernel
theorem dX7_init_147 : decode cX7_init 147 = .ok (.aload_n 0, 1) := by decide +kernel
theorem dX7_init_148 : decode cX7_init 148 = .ok (.getfield 28, 3) := by decide +kernel
theorem dX7_init_151 : decode cX7_init 151 = .ok (.iconst 4, 1) := by decide +kernel
theorem dX7_init_152 : decode cX7_init 152 = .ok (.bipush 14, 2) := by decide +kernel
theorem dX7_init_154 : decode cX7_init 154 = .ok (.invokevirtual 60, 3) := by decide +kernel
theorem dX7_init_157 : decode cX7_init 157 = .ok (.pop, 1) := by decide +kernel
theorem dX7_init_158 : decode cX7_init 158 = .ok (.aload_n 0, 1) := by decide +kernel
theorem dX7_init_159 : decode cX7_init 159 = .ok (.getfield 28, 3) := by decide +kernel
theorem dX7_init_162 : decode cX7_init 162 = .ok (.iconst 1, 1) := by decide +kernel
theorem dX7_init_163 : decode cX7_init 163 = .ok (.putfield 64, 3) := by decide +kernel
theorem dX7_init_166 : decode cX7_init 166 = .ok (.aload_n 0, 1) := by decide +kernel
theorem dX7_init_167 : decode cX7_init 167 = .ok (.getfield 28, 3) := by decide +kernel
theorem dX7_init_170 : decode cX7_init 170 = .ok (.bipush 9, 2) := by decide +kernel
theorem dX7_init_172 : decode cX7_init 172 = .ok (.invokevirtual 67, 3) := by decide +kernel
theorem dX7_init_175 : decode cX7_init 175 = .ok (.pop, 1) := by decide +kernel
theorem dX7_init_176 : decode cX7_init 176 = .ok (.aload_n 0, 1) := by decide +kernel
theorem dX7_init_177 : decode cX7_init 177 = .ok (.getfield 28, 3) := by decide +kernel
theorem dX7_init_180 : decode cX7_init 180 = .ok (.bipush 12, 2) := by decide +kernel
theorem dX7_init_182 : decode cX7_init 182 = .ok (.bipush 15, 2) := by decide +kernel
theorem dX7_init_184 : decode cX7_init 184 = .ok (.invokevirtual 60, 3) := by decide +kernel
theorem dX7_init_187 : decode cX7_init 187 = .ok (.pop, 1) := by decide +kernel
theorem dX7_init_188 : decode cX7_init 188 = .ok (.return_, 1) := by decide +kernel
theorem dX7_append_0 : decode cX7_append 0 = .ok (.aload_n 0, 1) := by decide +kernel
theorem dX7_append_1 : decode cX7_append 1 = .ok (.getfield 10, 3) := by decide +kernel
theorem dX7_append_4 : decode cX7_append 4 = .ok (.getfield 71, 3) := by decide +kernel
theorem dX7_append_7 : decode cX7_append 7 = .ok (.bipush 20, 2) := by decide +kernel
theorem dX7_append_9 : decode cX7_append 9 = .ok (.iadd, 1) := by decide +kernel
theorem dX7_append_10 : decode cX7_append 10 = .ok (.sipush 600, 3) := by decide +kernel
theorem dX7_append_13 : decode cX7_append 13 = .ok (.if_icmp .le 5, 3) := by decide +kernel
theorem dX7_append_16 : decode cX7_append 16 = .ok (.iconst (-1), 1) := by decide +kernel
theorem dX7_append_17 : decode cX7_append 17 = .ok (.ireturn, 1) := by decide +kernel
theorem dX7_append_18 : decode cX7_append 18 = .ok (.aload_n 0, 1) := by decide +kernel
theorem dX7_append_19 : decode cX7_append 19 = .ok (.getfield 10, 3) := by decide +kernel
theorem dX7_append_22 : decode cX7_append 22 = .ok (.iload_n 1, 1) := by decide +kernel
theorem dX7_append_23 : decode cX7_append 23 = .ok (.invokevirtual 75, 3) := by decide +kernel
theorem dX7_append_26 : decode cX7_append 26 = .ok (.aload_n 0, 1) := by decide +kernel
theorem dX7_append_27 : decode cX7_append 27 = .ok (.getfield 10, 3) := by decide +kernel
theorem dX7_append_30 : decode cX7_append 30 = .ok (.iload_n 2, 1) := by decide +kernel
theorem dX7_append_31 : decode cX7_append 31 = .ok (.invokevirtual 75, 3) := by decide +kernel
theorem dX7_append_34 : decode cX7_append 34 = .ok (.aload_n 0, 1) := by decide +kernel
theorem dX7_append_35 : decode cX7_append 35 = .ok (.getfield 10, 3) := by decide +kernel
theorem dX7_append_38 : decode cX7_append 38 = .ok (.iload_n 3, 1) := by decide +kernel
theorem dX7_append_39 : decode cX7_append 39 = .ok (.invokevirtual 75, 3) := by decide +kernel
theorem dX7_append_42 : decode cX7_append 42 = .ok (.aload_n 0, 1) := by decide +kernel
theorem dX7_append_43 : decode cX7_append 43 = .ok (.getfield 10, 3) := by decide +kernel
theorem dX7_append_46 : decode cX7_append 46 = .ok (.iload 4, 2) := by decide +kernel
theorem dX7_append_48 : decode cX7_append 48 = .ok (.invokevirtual 75, 3) := by decide +kernel
theorem dX7_append_51 : decode cX7_append 51 = .ok (.aload_n 0, 1) := by decide +kernel
theorem dX7_append_52 : decode cX7_append 52 = .ok (.getfield 10, 3) := by decide +kernel
theorem dX7_append_55 : decode cX7_append 55 = .ok (.iload 5, 2) := by decide +kernel
theorem dX7_append_57 : decode cX7_append 57 = .ok (.invokevirtual 75, 3) := by decide +kernel
theorem dX7_append_60 : decode cX7_append 60 = .ok (.aload_n 0, 1) := by decide +kernel
theorem dX7_append_61 : decode cX7_append 61 = .ok (.getfield 10, 3) := by decide +kernel
theorem dX7_append_64 : decode cX7_append 64 = .ok (.getfield 71, 3) := by decide +kernel
theorem dX7_append_67 : decode cX7_append 67 = .ok (.ireturn, 1) := by decide +kernel
theorem dX7_truncateInput_0 : decode cX7_truncateInput 0 = .ok (.iload_n 1, 1) := by decide +kernel
theorem dX7_truncateInput_1 : decode cX7_truncateInput 1 = .ok (.ifCond .lt 14, 3) := by decide +kernel
theorem dX7_truncateInput_4 : decode cX7_truncateInput 4 = .ok (.iload_n 1, 1) := by decide +kernel
theorem dX7_truncateInput_5 : decode cX7_truncateInput 5 = .ok (.aload_n 0, 1) := by decide +kernel
theorem dX7_truncateInput_6 : decode cX7_truncateInput 6 = .ok (.getfield 10, 3) := by decide +kernel
theorem dX7_truncateInput_9 : decode cX7_truncateInput 9 = .ok (.getfield 71, 3) := by decide +kernel
theorem dX7_truncateInput_12 : decode cX7_truncateInput 12 = .ok (.if_icmp .le 13, 3) := by decide +kernel
theorem dX7_truncateInput_15 : decode cX7_truncateInput 15 = .ok (.new 79, 3) := by decide +kernel
theorem dX7_truncateInput_18 : decode cX7_truncateInput 18 = .ok (.dup, 1) := by decide +kernel
theorem dX7_truncateInput_19 : decode cX7_truncateInput 19 = .ok (.ldc 81, 2) := by decide +kernel
theorem dX7_truncateInput_21 : decode cX7_truncateInput 21 = .ok (.invokespecial 83, 3) := by decide +kernel
theorem dX7_truncateInput_24 : decode cX7_truncateInput 24 = .ok (.athrow, 1) := by decide +kernel
theorem dX7_truncateInput_25 : decode cX7_truncateInput 25 = .ok (.aload_n 0, 1) := by decide +kernel
theorem dX7_truncateInput_26 : decode cX7_truncateInput 26 = .ok (.getfield 10, 3) := by decide +kernel
theorem dX7_truncateInput_29 : decode cX7_truncateInput 29 = .ok (.iload_n 1, 1) := by decide +kernel
theorem dX7_truncateInput_30 : decode cX7_truncateInput 30 = .ok (.putfield 71, 3) := by decide +kernel
theorem dX7_truncateInput_33 : decode cX7_truncateInput 33 = .ok (.iload_n 1, 1) := by decide +kernel
theorem dX7_truncateInput_34 : decode cX7_truncateInput 34 = .ok (.ireturn, 1) := by decide +kernel
theorem dX7_runScript_0 : decode cX7_runScript 0 = .ok (.aload_n 0, 1) := by decide +kernel
theorem dX7_runScript_1 : decode cX7_runScript 1 = .ok (.getfield 21, 3) := by decide +kernel
theorem dX7_runScript_4 : decode cX7_runScript 4 = .ok (.invokevirtual 86, 3) := by decide +kernel
theorem dX7_runScript_7 : decode cX7_runScript 7 = .ok (.iconst 0, 1) := by decide +kernel
theorem dX7_runScript_8 : decode cX7_runScript 8 = .ok (.istore_n 1, 1) := by decide +kernel
theorem dX7_runScript_9 : decode cX7_runScript 9 = .ok (.iload_n 1, 1) := by decide +kernel
theorem dX7_runScript_10 : decode cX7_runScript 10 = .ok (.ldc 88, 2) := by decide +kernel
theorem dX7_runScript_12 : decode cX7_runScript 12 = .ok (.if_icmp .ge 33, 3) := by decide +kernel
theorem dX7_runScript_15 : decode cX7_runScript 15 = .ok (.aload_n 0, 1) := by decide +kernel
theorem dX7_runScript_16 : decode cX7_runScript 16 = .ok (.getfield 21, 3) := by decide +kernel
theorem dX7_runScript_19 : decode cX7_runScript 19 = .ok (.invokevirtual 89, 3) := by decide +kernel
theorem dX7_runScript_22 : decode cX7_runScript 22 = .ok (.ifCond .eq 23, 3) := by decide +kernel
theorem dX7_runScript_25 : decode cX7_runScript 25 = .ok (.aload_n 0, 1) := by decide +kernel
theorem dX7_runScript_26 : decode cX7_runScript 26 = .ok (.getfield 21, 3) := by decide +kernel
theorem dX7_runScript_29 : decode cX7_runScript 29 = .ok (.invokevirtual 93, 3) := by decide +kernel
theorem dX7_runScript_32 : decode cX7_runScript 32 = .ok (.aload_n 0, 1) := by decide +kernel
theorem dX7_runScript_33 : decode cX7_runScript 33 = .ok (.getfield 21, 3) := by decide +kernel
theorem dX7_runScript_36 : decode cX7_runScript 36 = .ok (.invokevirtual 96, 3) := by decide +kernel
theorem dX7_runScript_39 : decode cX7_runScript 39 = .ok (.iinc 1 1, 3) := by decide +kernel
theorem dX7_runScript_42 : decode cX7_runScript 42 = .ok (.goto (-33), 3) := by decide +kernel
theorem dX7_runScript_45 : decode cX7_runScript 45 = .ok (.aload_n 0, 1) := by decide +kernel
theorem dX7_runScript_46 : decode cX7_runScript 46 = .ok (.getfield 10, 3) := by decide +kernel
theorem dX7_runScript_49 : decode cX7_runScript 49 = .ok (.iconst 0, 1) := by decide +kernel
theorem dX7_runScript_50 : decode cX7_runScript 50 = .ok (.putfield 71, 3) := by decide +kernel
theorem dX7_runScript_53 : decode cX7_runScript 53 = .ok (.aload_n 0, 1) := by decide +kernel
theorem dX7_runScript_54 : decode cX7_runScript 54 = .ok (.getfield 21, 3) := by decide +kernel
theorem dX7_runScript_57 : decode cX7_runScript 57 = .ok (.getfield 99, 3) := by decide +kernel
theorem dX7_runScript_60 : decode cX7_runScript 60 = .ok (.ifCond .eq 5, 3) := by decide +kernel
theorem dX7_runScript_63 : decode cX7_runScript 63 = .ok (.iconst (-1), 1) := by decide +kernel
theorem dX7_runScript_64 : decode cX7_runScript 64 = .ok (.ireturn, 1) := by decide +kernel
theorem dX7_runScript_65 : decode cX7_runScript 65 = .ok (.aload_n 0, 1) := by decide +kernel
theorem dX7_runScript_66 : decode cX7_runScript 66 = .ok (.getfield 45, 3) := by decide +kernel
theorem dX7_runScript_69 : decode cX7_runScript 69 = .ok (.aload_n 0, 1) := by decide +kernel
theorem dX7_runScript_70 : decode cX7_runScript 70 = .ok (.getfield 28, 3) := by decide +kernel
theorem dX7_runScript_73 : decode cX7_runScript 73 = .ok (.invokevirtual 102, 3) := by decide +kernel
theorem dX7_runScript_76 : decode cX7_runScript 76 = .ok (.aload_n 0, 1) := by decide +kernel
theorem dX7_runScript_77 : decode cX7_runScript 77 = .ok (.getfield 28, 3) := by decide +kernel
theorem dX7_runScript_80 : decode cX7_runScript 80 = .ok (.aload_n 0, 1) := by decide +kernel
theorem dX7_runScript_81 : decode cX7_runScript 81 = .ok (.getfield 21, 3) := by decide +kernel
theorem dX7_runScript_84 : decode cX7_runScript 84 = .ok (.getfield 106, 3) := by decide +kernel
theorem dX7_runScript_87 : decode cX7_runScript 87 = .ok (.invokevirtual 109, 3) := by decide +kernel
theorem dX7_runScript_90 : decode cX7_runScript 90 = .ok (.aload_n 0, 1) := by decide +kernel
theorem dX7_runScript_91 : decode cX7_runScript 91 = .ok (.getfield 45, 3) := by decide +kernel
theorem dX7_runScript_94 : decode cX7_runScript 94 = .ok (.invokevirtual 112, 3) := by decide +kernel
theorem dX7_runScript_97 : decode cX7_runScript 97 = .ok (.aload_n 0, 1) := by decide +kernel
theorem dX7_runScript_98 : decode cX7_runScript 98 = .ok (.getfield 28, 3) := by decide +kernel
theorem dX7_runScript_101 : decode cX7_runScript 101 = .ok (.getfield 115, 3) := by decide +kernel
theorem dX7_runScript_104 : decode cX7_runScript 104 = .ok (.ireturn, 1) := by decide +kernel
theorem dX7_add_0 : decode cX7_add 0 = .ok (.iload_n 1, 1) := by decide +kernel
theorem dX7_add_1 : decode cX7_add 1 = .ok (.invokestatic 118, 3) := by decide +kernel
theorem dX7_add_4 : decode cX7_add 4 = .ok (.iload_n 2, 1) := by decide +kernel
theorem dX7_add_5 : decode cX7_add 5 = .ok (.invokestatic 121, 3) := by decide +kernel
theorem dX7_add_8 : decode cX7_add 8 = .ok (.aload_n 0, 1) := by decide +kernel
theorem dX7_add_9 : decode cX7_add 9 = .ok (.getfield 28, 3) := by decide +kernel
theorem dX7_add_12 : decode cX7_add 12 = .ok (.iload_n 1, 1) := by decide +kernel
theorem dX7_add_13 : decode cX7_add 13 = .ok (.invokevirtual 124, 3) := by decide +kernel
theorem dX7_add_16 : decode cX7_add 16 = .ok (.iconst (-1), 1) := by decide +kernel
theorem dX7_add_17 : decode cX7_add 17 = .ok (.if_icmp .eq 13, 3) := by decide +kernel
theorem dX7_add_20 : decode cX7_add 20 = .ok (.new 127, 3) := by decide +kernel
theorem dX7_add_23 : decode cX7_add 23 = .ok (.dup, 1) := by decide +kernel
theorem dX7_add_24 : decode cX7_add 24 = .ok (.ldc 129, 2) := by decide +kernel
theorem dX7_add_26 : decode cX7_add 26 = .ok (.invokespecial 131, 3) := by decide +kernel
theorem dX7_add_29 : decode cX7_add 29 = .ok (.athrow, 1) := by decide +kernel
theorem dX7_add_30 : decode cX7_add 30 = .ok (.aload_n 0, 1) := by decide +kernel
theorem dX7_add_31 : decode cX7_add 31 = .ok (.getfield 45, 3) := by decide +kernel
theorem dX7_add_34 : decode cX7_add 34 = .ok (.aload_n 0, 1) := by decide +kernel
theorem dX7_add_35 : decode cX7_add 35 = .ok (.getfield 28, 3) := by decide +kernel
theorem dX7_add_38 : decode cX7_add 38 = .ok (.invokevirtual 102, 3) := by decide +kernel
theorem dX7_add_41 : decode cX7_add 41 = .ok (.aload_n 0, 1) := by decide +kernel
theorem dX7_add_42 : decode cX7_add 42 = .ok (.getfield 28, 3) := by decide +kernel
theorem dX7_add_45 : decode cX7_add 45 = .ok (.iload_n 1, 1) := by decide +kernel
theorem dX7_add_46 : decode cX7_add 46 = .ok (.iload_n 2, 1) := by decide +kernel
theorem dX7_add_47 : decode cX7_add 47 = .ok (.invokevirtual 60, 3) := by decide +kernel
theorem dX7_add_50 : decode cX7_add 50 = .ok (.istore_n 3, 1) := by decide +kernel
theorem dX7_add_51 : decode cX7_add 51 = .ok (.iload_n 3, 1) := by decide +kernel
theorem dX7_add_52 : decode cX7_add 52 = .ok (.iconst (-1), 1) := by decide +kernel
theorem dX7_add_53 : decode cX7_add 53 = .ok (.if_icmp .ne 24, 3) := by decide +kernel
theorem dX7_add_56 : decode cX7_add 56 = .ok (.aload_n 0, 1) := by decide +kernel
theorem dX7_add_57 : decode cX7_add 57 = .ok (.getfield 45, 3) := by decide +kernel
theorem dX7_add_60 : decode cX7_add 60 = .ok (.aload_n 0, 1) := by decide +kernel
theorem dX7_add_61 : decode cX7_add 61 = .ok (.getfield 28, 3) := by decide +kernel
theorem dX7_add_64 : decode cX7_add 64 = .ok (.invokevirtual 132, 3) := by decide +kernel
theorem dX7_add_67 : decode cX7_add 67 = .ok (.new 127, 3) := by decide +kernel
theorem dX7_add_70 : decode cX7_add 70 = .ok (.dup, 1) := by decide +kernel
theorem dX7_add_71 : decode cX7_add 71 = .ok (.ldc 135, 2) := by decide +kernel
theorem dX7_add_73 : decode cX7_add 73 = .ok (.invokespecial 131, 3) := by decide +kernel
theorem dX7_add_76 : decode cX7_add 76 = .ok (.athrow, 1) := by decide +kernel
theorem dX7_add_77 : decode cX7_add 77 = .ok (.aload_n 0, 1) := by decide +kernel
theorem dX7_add_78 : decode cX7_add 78 = .ok (.getfield 45, 3) := by decide +kernel
theorem dX7_add_81 : decode cX7_add 81 = .ok (.invokevirtual 112, 3) := by decide +kernel
theorem dX7_add_84 : decode cX7_add 84 = .ok (.iload_n 3, 1) := by decide +kernel
theorem dX7_add_85 : decode cX7_add 85 = .ok (.ireturn, 1) := by decide +kernel
theorem dX7_put_0 : decode cX7_put 0 = .ok (.iload_n 1, 1) := by decide +kernel
theorem dX7_put_1 : decode cX7_put 1 = .ok (.invokestatic 118, 3) := by decide +kernel
theorem dX7_put_4 : decode cX7_put 4 = .ok (.iload_n 2, 1) := by decide +kernel
theorem dX7_put_5 : decode cX7_put 5 = .ok (.invokestatic 121, 3) := by decide +kernel
theorem dX7_put_8 : decode cX7_put 8 = .ok (.aload_n 0, 1) := by decide +kernel
theorem dX7_put_9 : decode cX7_put 9 = .ok (.getfield 28, 3) := by decide +kernel
theorem dX7_put_12 : decode cX7_put 12 = .ok (.aload_n 0, 1) := by decide +kernel
theorem dX7_put_13 : decode cX7_put 13 = .ok (.getfield 28, 3) := by decide +kernel
theorem dX7_put_16 : decode cX7_put 16 = .ok (.iload_n 1, 1) := by decide +kernel
theorem dX7_put_17 : decode cX7_put 17 = .ok (.invokevirtual 124, 3) := by decide +kernel
theorem dX7_put_20 : decode cX7_put 20 = .ok (.invokevirtual 137, 3) := by decide +kernel
theorem dX7_put_23 : decode cX7_put 23 = .ok (.istore_n 3, 1) := by decide +kernel
theorem dX7_put_24 : decode cX7_put 24 = .ok (.aload_n 0, 1) := by decide +kernel
theorem dX7_put_25 : decode cX7_put 25 = .ok (.getfield 45, 3) := by decide +kernel
theorem dX7_put_28 : decode cX7_put 28 = .ok (.aload_n 0, 1) := by decide +kernel
theorem dX7_put_29 : decode cX7_put 29 = .ok (.getfield 28, 3) := by decide +kernel
theorem dX7_put_32 : decode cX7_put 32 = .ok (.invokevirtual 102, 3) := by decide +kernel
theorem dX7_put_35 : decode cX7_put 35 = .ok (.aload_n 0, 1) := by decide +kernel
theorem dX7_put_36 : decode cX7_put 36 = .ok (.getfield 28, 3) := by decide +kernel
theorem dX7_put_39 : decode cX7_put 39 = .ok (.iload_n 1, 1) := by decide +kernel
theorem dX7_put_40 : decode cX7_put 40 = .ok (.iload_n 2, 1) := by decide +kernel
theorem dX7_put_41 : decode cX7_put 41 = .ok (.invokevirtual 140, 3) := by decide +kernel
theorem dX7_put_44 : decode cX7_put 44 = .ok (.ifCond .ne 24, 3) := by decide +kernel
theorem dX7_put_47 : decode cX7_put 47 = .ok (.aload_n 0, 1) := by decide +kernel
theorem dX7_put_48 : decode cX7_put 48 = .ok (.getfield 45, 3) := by decide +kernel
theorem dX7_put_51 : decode cX7_put 51 = .ok (.aload_n 0, 1) := by decide +kernel
theorem dX7_put_52 : decode cX7_put 52 = .ok (.getfield 28, 3) := by decide +kernel
theorem dX7_put_55 : decode cX7_put 55 = .ok (.invokevirtual 132, 3) := by decide +kernel
theorem dX7_put_58 : decode cX7_put 58 = .ok (.new 127, 3) := by decide +kernel
theorem dX7_put_61 : decode cX7_put 61 = .ok (.dup, 1) := by decide +kernel
theorem dX7_put_62 : decode cX7_put 62 = .ok (.ldc 135, 2) := by decide +kernel
theorem dX7_put_64 : decode cX7_put 64 = .ok (.invokespecial 131, 3) := by decide +kernel
theorem dX7_put_67 : decode cX7_put 67 = .ok (.athrow, 1) := by decide +kernel
theorem dX7_put_68 : decode cX7_put 68 = .ok (.aload_n 0, 1) := by decide +kernel
theorem dX7_put_69 : decode cX7_put 69 = .ok (.getfield 45, 3) := by decide +kernel
theorem dX7_put_72 : decode cX7_put 72 = .ok (.invokevirtual 112, 3) := by decide +kernel
theorem dX7_put_75 : decode cX7_put 75 = .ok (.iload_n 3, 1) := by decide +kernel
theorem dX7_put_76 : decode cX7_put 76 = .ok (.ireturn, 1) := by decide +kernel
theorem dX7_addRow_0 : decode cX7_addRow 0 = .ok (.iload_n 1, 1) := by decide +kernel
theorem dX7_addRow_1 : decode cX7_addRow 1 = .ok (.invokestatic 144, 3) := by decide +kernel
theorem dX7_addRow_4 : decode cX7_addRow 4 = .ok (.ifCond .eq 19, 3) := by decide +kernel
theorem dX7_addRow_7 : decode cX7_addRow 7 = .ok (.iload_n 2, 1) := by decide +kernel
theorem dX7_addRow_8 : decode cX7_addRow 8 = .ok (.invokestatic 148, 3) := by decide +kernel
theorem dX7_addRow_11 : decode cX7_addRow 11 = .ok (.ifCond .eq 12, 3) := by decide +kernel
theorem dX7_addRow_14 : decode cX7_addRow 14 = .ok (.iload_n 1, 1) := by decide +kernel
theorem dX7_addRow_15 : decode cX7_addRow 15 = .ok (.iload_n 2, 1) := by decide +kernel
theorem dX7_addRow_16 : decode cX7_addRow 16 = .ok (.iload_n 3, 1) := by decide +kernel
theorem dX7_addRow_17 : decode cX7_addRow 17 = .ok (.invokestatic 151, 3) := by decide +kernel
theorem dX7_addRow_20 : decode cX7_addRow 20 = .ok (.ifCond .ne 13, 3) := by decide +kernel
theorem dX7_addRow_23 : decode cX7_addRow 23 = .ok (.new 79, 3) := by decide +kernel
theorem dX7_addRow_26 : decode cX7_addRow 26 = .ok (.dup, 1) := by decide +kernel
theorem dX7_addRow_27 : decode cX7_addRow 27 = .ok (.ldc 155, 2) := by decide +kernel
theorem dX7_addRow_29 : decode cX7_addRow 29 = .ok (.invokespecial 83, 3) := by decide +kernel
theorem dX7_addRow_32 : decode cX7_addRow 32 = .ok (.athrow, 1) := by decide +kernel
theorem dX7_addRow_33 : decode cX7_addRow 33 = .ok (.aload_n 0, 1) := by decide +kernel
theorem dX7_addRow_34 : decode cX7_addRow 34 = .ok (.getfield 45, 3) := by decide +kernel
theorem dX7_addRow_37 : decode cX7_addRow 37 = .ok (.aload_n 0, 1) := by decide +kernel
theorem dX7_addRow_38 : decode cX7_addRow 38 = .ok (.getfield 28, 3) := by decide +kernel
theorem dX7_addRow_41 : decode cX7_addRow 41 = .ok (.invokevirtual 102, 3) := by decide +kernel
theorem dX7_addRow_44 : decode cX7_addRow 44 = .ok (.aload_n 0, 1) := by decide +kernel
theorem dX7_addRow_45 : decode cX7_addRow 45 = .ok (.getfield 28, 3) := by decide +kernel
theorem dX7_addRow_48 : decode cX7_addRow 48 = .ok (.iload_n 1, 1) := by decide +kernel
theorem dX7_addRow_49 : decode cX7_addRow 49 = .ok (.iload_n 2, 1) := by decide +kernel
theorem dX7_addRow_50 : decode cX7_addRow 50 = .ok (.iload_n 3, 1) := by decide +kernel
theorem dX7_addRow_51 : decode cX7_addRow 51 = .ok (.invokevirtual 157, 3) := by decide +kernel
theorem dX7_addRow_54 : decode cX7_addRow 54 = .ok (.istore 4, 2) := by decide +kernel
theorem dX7_addRow_56 : decode cX7_addRow 56 = .ok (.iload 4, 2) := by decide +kernel
theorem dX7_addRow_58 : decode cX7_addRow 58 = .ok (.iconst (-1), 1) := by decide +kernel
theorem dX7_addRow_59 : decode cX7_addRow 59 = .ok (.if_icmp .ne 24, 3) := by decide +kernel
theorem dX7_addRow_62 : decode cX7_addRow 62 = .ok (.aload_n 0, 1) := by decide +kernel
theorem dX7_addRow_63 : decode cX7_addRow 63 = .ok (.getfield 45, 3) := by decide +kernel
theorem dX7_addRow_66 : decode cX7_addRow 66 = .ok (.aload_n 0, 1) := by decide +kernel
theorem dX7_addRow_67 : decode cX7_addRow 67 = .ok (.getfield 28, 3) := by decide +kernel
theorem dX7_addRow_70 : decode cX7_addRow 70 = .ok (.invokevirtual 132, 3) := by decide +kernel
theorem dX7_addRow_73 : decode cX7_addRow 73 = .ok (.new 127, 3) := by decide +kernel
theorem dX7_addRow_76 : decode cX7_addRow 76 = .ok (.dup, 1) := by decide +kernel
theorem dX7_addRow_77 : decode cX7_addRow 77 = .ok (.ldc 161, 2) := by decide +kernel
theorem dX7_addRow_79 : decode cX7_addRow 79 = .ok (.invokespecial 131, 3) := by decide +kernel
theorem dX7_addRow_82 : decode cX7_addRow 82 = .ok (.athrow, 1) := by decide +kernel
theorem dX7_addRow_83 : decode cX7_addRow 83 = .ok (.aload_n 0, 1) := by decide +kernel
theorem dX7_addRow_84 : decode cX7_addRow 84 = .ok (.getfield 45, 3) := by decide +kernel
theorem dX7_addRow_87 : decode cX7_addRow 87 = .ok (.invokevirtual 112, 3) := by decide +kernel
theorem dX7_addRow_90 : decode cX7_addRow 90 = .ok (.iload 4, 2) := by decide +kernel
theorem dX7_addRow_92 : decode cX7_addRow 92 = .ok (.ireturn, 1) := by decide +kernel
theorem dX7_remove_0 : decode cX7_remove 0 = .ok (.iload_n 1, 1) := by decide +kernel
theorem dX7_remove_1 : decode cX7_remove 1 = .ok (.invokestatic 144, 3) := by decide +kernel
theorem dX7_remove_4 : decode cX7_remove 4 = .ok (.ifCond .eq 15, 3) := by decide +kernel
theorem dX7_remove_7 : decode cX7_remove 7 = .ok (.aload_n 0, 1) := by decide +kernel
theorem dX7_remove_8 : decode cX7_remove 8 = .ok (.getfield 28, 3) := by decide +kernel
theorem dX7_remove_11 : decode cX7_remove 11 = .ok (.iload_n 1, 1) := by decide +kernel
theorem dX7_remove_12 : decode cX7_remove 12 = .ok (.invokevirtual 124, 3) := by decide +kernel
theorem dX7_remove_15 : decode cX7_remove 15 = .ok (.iconst (-1), 1) := by decide +kernel
theorem dX7_remove_16 : decode cX7_remove 16 = .ok (.if_icmp .ne 13, 3) := by decide +kernel
theorem dX7_remove_19 : decode cX7_remove 19 = .ok (.new 163, 3) := by decide +kernel
theorem dX7_remove_22 : decode cX7_remove 22 = .ok (.dup, 1) := by decide +kernel
theorem dX7_remove_23 : decode cX7_remove 23 = .ok (.ldc 165, 2) := by decide +kernel
theorem dX7_remove_25 : decode cX7_remove 25 = .ok (.invokespecial 167, 3) := by decide +kernel
theorem dX7_remove_28 : decode cX7_remove 28 = .ok (.athrow, 1) := by decide +kernel
theorem dX7_remove_29 : decode cX7_remove 29 = .ok (.aload_n 0, 1) := by decide +kernel
theorem dX7_remove_30 : decode cX7_remove 30 = .ok (.getfield 45, 3) := by decide +kernel
theorem dX7_remove_33 : decode cX7_remove 33 = .ok (.aload_n 0, 1) := by decide +kernel
theorem dX7_remove_34 : decode cX7_remove 34 = .ok (.getfield 28, 3) := by decide +kernel
theorem dX7_remove_37 : decode cX7_remove 37 = .ok (.invokevirtual 102, 3) := by decide +kernel
theorem dX7_remove_40 : decode cX7_remove 40 = .ok (.aload_n 0, 1) := by decide +kernel
theorem dX7_remove_41 : decode cX7_remove 41 = .ok (.getfield 28, 3) := by decide +kernel
theorem dX7_remove_44 : decode cX7_remove 44 = .ok (.iload_n 1, 1) := by decide +kernel
theorem dX7_remove_45 : decode cX7_remove 45 = .ok (.invokevirtual 67, 3) := by decide +kernel
theorem dX7_remove_48 : decode cX7_remove 48 = .ok (.istore_n 2, 1) := by decide +kernel
theorem dX7_remove_49 : decode cX7_remove 49 = .ok (.aload_n 0, 1) := by decide +kernel
theorem dX7_remove_50 : decode cX7_remove 50 = .ok (.getfield 45, 3) := by decide +kernel
theorem dX7_remove_53 : decode cX7_remove 53 = .ok (.invokevirtual 112, 3) := by decide +kernel
theorem dX7_remove_56 : decode cX7_remove 56 = .ok (.iload_n 2, 1) := by decide +kernel
theorem dX7_remove_57 : decode cX7_remove 57 = .ok (.ireturn, 1) := by decide +kernel
theorem dX7_setNeighbourhood_0 : decode cX7_setNeighbourhood 0 = .ok (.iload_n 1, 1) := by decide +kernel
theorem dX7_setNeighbourhood_1 : decode cX7_setNeighbourhood 1 = .ok (.invokestatic 168, 3) := by decide +kernel
theorem dX7_setNeighbourhood_4 : decode cX7_setNeighbourhood 4 = .ok (.ifCond .ne 13, 3) := by decide +kernel
theorem dX7_setNeighbourhood_7 : decode cX7_setNeighbourhood 7 = .ok (.new 79, 3) := by decide +kernel
theorem dX7_setNeighbourhood_10 : decode cX7_setNeighbourhood 10 = .ok (.dup, 1) := by decide +kernel
theorem dX7_setNeighbourhood_11 : decode cX7_setNeighbourhood 11 = .ok (.ldc 171, 2) := by decide +kernel
theorem dX7_setNeighbourhood_13 : decode cX7_setNeighbourhood 13 = .ok (.invokespecial 83, 3) := by decide +kernel
theorem dX7_setNeighbourhood_16 : decode cX7_setNeighbourhood 16 = .ok (.athrow, 1) := by decide +kernel
theorem dX7_setNeighbourhood_17 : decode cX7_setNeighbourhood 17 = .ok (.aload_n 0, 1) := by decide +kernel
theorem dX7_setNeighbourhood_18 : decode cX7_setNeighbourhood 18 = .ok (.getfield 45, 3) := by decide +kernel
theorem dX7_setNeighbourhood_21 : decode cX7_setNeighbourhood 21 = .ok (.aload_n 0, 1) := by decide +kernel
theorem dX7_setNeighbourhood_22 : decode cX7_setNeighbourhood 22 = .ok (.getfield 28, 3) := by decide +kernel
theorem dX7_setNeighbourhood_25 : decode cX7_setNeighbourhood 25 = .ok (.invokevirtual 102, 3) := by decide +kernel
theorem dX7_setNeighbourhood_28 : decode cX7_setNeighbourhood 28 = .ok (.aload_n 0, 1) := by decide +kernel
theorem dX7_setNeighbourhood_29 : decode cX7_setNeighbourhood 29 = .ok (.getfield 28, 3) := by decide +kernel
theorem dX7_setNeighbourhood_32 : decode cX7_setNeighbourhood 32 = .ok (.iload_n 1, 1) := by decide +kernel
theorem dX7_setNeighbourhood_33 : decode cX7_setNeighbourhood 33 = .ok (.invokevirtual 173, 3) := by decide +kernel
theorem dX7_setNeighbourhood_36 : decode cX7_setNeighbourhood 36 = .ok (.ifCond .ne 24, 3) := by decide +kernel
theorem dX7_setNeighbourhood_39 : decode cX7_setNeighbourhood 39 = .ok (.aload_n 0, 1) := by decide +kernel
theorem dX7_setNeighbourhood_40 : decode cX7_setNeighbourhood 40 = .ok (.getfield 45, 3) := by decide +kernel
theorem dX7_setNeighbourhood_43 : decode cX7_setNeighbourhood 43 = .ok (.aload_n 0, 1) := by decide +kernel
theorem dX7_setNeighbourhood_44 : decode cX7_setNeighbourhood 44 = .ok (.getfield 28, 3) := by decide +kernel
theorem dX7_setNeighbourhood_47 : decode cX7_setNeighbourhood 47 = .ok (.invokevirtual 132, 3) := by decide +kernel
theorem dX7_setNeighbourhood_50 : decode cX7_setNeighbourhood 50 = .ok (.new 127, 3) := by decide +kernel
theorem dX7_setNeighbourhood_53 : decode cX7_setNeighbourhood 53 = .ok (.dup, 1) := by decide +kernel
theorem dX7_setNeighbourhood_54 : decode cX7_setNeighbourhood 54 = .ok (.ldc 176, 2) := by decide +kernel
theorem dX7_setNeighbourhood_56 : decode cX7_setNeighbourhood 56 = .ok (.invokespecial 131, 3) := by decide +kernel
theorem dX7_setNeighbourhood_59 : decode cX7_setNeighbourhood 59 = .ok (.athrow, 1) := by decide +kernel
theorem dX7_setNeighbourhood_60 : decode cX7_setNeighbourhood 60 = .ok (.aload_n 0, 1) := by decide +kernel
theorem dX7_setNeighbourhood_61 : decode cX7_setNeighbourhood 61 = .ok (.getfield 45, 3) := by decide +kernel
theorem dX7_setNeighbourhood_64 : decode cX7_setNeighbourhood 64 = .ok (.invokevirtual 112, 3) := by decide +kernel
theorem dX7_setNeighbourhood_67 : decode cX7_setNeighbourhood 67 = .ok (.aload_n 0, 1) := by decide +kernel
theorem dX7_setNeighbourhood_68 : decode cX7_setNeighbourhood 68 = .ok (.getfield 28, 3) := by decide +kernel
theorem dX7_setNeighbourhood_71 : decode cX7_setNeighbourhood 71 = .ok (.getfield 178, 3) := by decide +kernel
theorem dX7_setNeighbourhood_74 : decode cX7_setNeighbourhood 74 = .ok (.ireturn, 1) := by decide +kernel
theorem dX7_setMultiplier_0 : decode cX7_setMultiplier 0 = .ok (.iload_n 1, 1) := by decide +kernel
theorem dX7_setMultiplier_1 : decode cX7_setMultiplier 1 = .ok (.invokestatic 181, 3) := by decide +kernel
theorem dX7_setMultiplier_4 : decode cX7_setMultiplier 4 = .ok (.ifCond .ne 13, 3) := by decide +kernel
theorem dX7_setMultiplier_7 : decode cX7_setMultiplier 7 = .ok (.new 79, 3) := by decide +kernel
theorem dX7_setMultiplier_10 : decode cX7_setMultiplier 10 = .ok (.dup, 1) := by decide +kernel
theorem dX7_setMultiplier_11 : decode cX7_setMultiplier 11 = .ok (.ldc 184, 2) := by decide +kernel
theorem dX7_setMultiplier_13 : decode cX7_setMultiplier 13 = .ok (.invokespecial 83, 3) := by decide +kernel
theorem dX7_setMultiplier_16 : decode cX7_setMultiplier 16 = .ok (.athrow, 1) := by decide +kernel
theorem dX7_setMultiplier_17 : decode cX7_setMultiplier 17 = .ok (.aload_n 0, 1) := by decide +kernel
theorem dX7_setMultiplier_18 : decode cX7_setMultiplier 18 = .ok (.getfield 45, 3) := by decide +kernel
theorem dX7_setMultiplier_21 : decode cX7_setMultiplier 21 = .ok (.aload_n 0, 1) := by decide +kernel
theorem dX7_setMultiplier_22 : decode cX7_setMultiplier 22 = .ok (.getfield 28, 3) := by decide +kernel
theorem dX7_setMultiplier_25 : decode cX7_setMultiplier 25 = .ok (.invokevirtual 102, 3) := by decide +kernel
theorem dX7_setMultiplier_28 : decode cX7_setMultiplier 28 = .ok (.aload_n 0, 1) := by decide +kernel
theorem dX7_setMultiplier_29 : decode cX7_setMultiplier 29 = .ok (.getfield 28, 3) := by decide +kernel
theorem dX7_setMultiplier_32 : decode cX7_setMultiplier 32 = .ok (.iload_n 1, 1) := by decide +kernel
theorem dX7_setMultiplier_33 : decode cX7_setMultiplier 33 = .ok (.invokevirtual 186, 3) := by decide +kernel
theorem dX7_setMultiplier_36 : decode cX7_setMultiplier 36 = .ok (.ifCond .ne 24, 3) := by decide +kernel
theorem dX7_setMultiplier_39 : decode cX7_setMultiplier 39 = .ok (.aload_n 0, 1) := by decide +kernel
theorem dX7_setMultiplier_40 : decode cX7_setMultiplier 40 = .ok (.getfield 45, 3) := by decide +kernel
theorem dX7_setMultiplier_43 : decode cX7_setMultiplier 43 = .ok (.aload_n 0, 1) := by decide +kernel
theorem dX7_setMultiplier_44 : decode cX7_setMultiplier 44 = .ok (.getfield 28, 3) := by decide +kernel
theorem dX7_setMultiplier_47 : decode cX7_setMultiplier 47 = .ok (.invokevirtual 132, 3) := by decide +kernel
theorem dX7_setMultiplier_50 : decode cX7_setMultiplier 50 = .ok (.new 127, 3) := by decide +kernel
theorem dX7_setMultiplier_53 : decode cX7_setMultiplier 53 = .ok (.dup, 1) := by decide +kernel
theorem dX7_setMultiplier_54 : decode cX7_setMultiplier 54 = .ok (.ldc 176, 2) := by decide +kernel
theorem dX7_setMultiplier_56 : decode cX7_setMultiplier 56 = .ok (.invokespecial 131, 3) := by decide +kernel
theorem dX7_setMultiplier_59 : decode cX7_setMultiplier 59 = .ok (.athrow, 1) := by decide +kernel
theorem dX7_setMultiplier_60 : decode cX7_setMultiplier 60 = .ok (.aload_n 0, 1) := by decide +kernel
theorem dX7_setMultiplier_61 : decode cX7_setMultiplier 61 = .ok (.getfield 45, 3) := by decide +kernel
theorem dX7_setMultiplier_64 : decode cX7_setMultiplier 64 = .ok (.invokevirtual 112, 3) := by decide +kernel
theorem dX7_setMultiplier_67 : decode cX7_setMultiplier 67 = .ok (.aload_n 0, 1) := by decide +kernel
theorem dX7_setMultiplier_68 : decode cX7_setMultiplier 68 = .ok (.getfield 28, 3) := by decide +kernel
theorem dX7_setMultiplier_71 : decode cX7_setMultiplier 71 = .ok (.getfield 178, 3) := by decide +kernel
theorem dX7_setMultiplier_74 : decode cX7_setMultiplier 74 = .ok (.ireturn, 1) := by decide +kernel
theorem dX7_setPulling_0 : decode cX7_setPulling 0 = .ok (.aload_n 0, 1) := by decide +kernel
theorem dX7_setPulling_1 : decode cX7_setPulling 1 = .ok (.getfield 28, 3) := by decide +kernel
theorem dX7_setPulling_4 : decode cX7_setPulling 4 = .ok (.getfield 64, 3) := by decide +kernel
theorem dX7_setPulling_7 : decode cX7_setPulling 7 = .ok (.istore_n 2, 1) := by decide +kernel
theorem dX7_setPulling_8 : decode cX7_setPulling 8 = .ok (.aload_n 0, 1) := by decide +kernel
theorem dX7_setPulling_9 : decode cX7_setPulling 9 = .ok (.getfield 45, 3) := by decide +kernel
theorem dX7_setPulling_12 : decode cX7_setPulling 12 = .ok (.aload_n 0, 1) := by decide +kernel
theorem dX7_setPulling_13 : decode cX7_setPulling 13 = .ok (.getfield 28, 3) := by decide +kernel
theorem dX7_setPulling_16 : decode cX7_setPulling 16 = .ok (.invokevirtual 102, 3) := by decide +kernel
theorem dX7_setPulling_19 : decode cX7_setPulling 19 = .ok (.aload_n 0, 1) := by decide +kernel
theorem dX7_setPulling_20 : decode cX7_setPulling 20 = .ok (.getfield 28, 3) := by decide +kernel
theorem dX7_setPulling_23 : decode cX7_setPulling 23 = .ok (.iload_n 1, 1) := by decide +kernel
theorem dX7_setPulling_24 : decode cX7_setPulling 24 = .ok (.putfield 64, 3) := by decide +kernel
theorem dX7_setPulling_27 : decode cX7_setPulling 27 = .ok (.aload_n 0, 1) := by decide +kernel
theorem dX7_setPulling_28 : decode cX7_setPulling 28 = .ok (.getfield 45, 3) := by decide +kernel
theorem dX7_setPulling_31 : decode cX7_setPulling 31 = .ok (.invokevirtual 112, 3) := by decide +kernel
theorem dX7_setPulling_34 : decode cX7_setPulling 34 = .ok (.iload_n 2, 1) := by decide +kernel
theorem dX7_setPulling_35 : decode cX7_setPulling 35 = .ok (.ireturn, 1) := by decide +kernel
theorem dX7_grow_0 : decode cX7_grow 0 = .ok (.aload_n 0, 1) := by decide +kernel
theorem dX7_grow_1 : decode cX7_grow 1 = .ok (.getfield 45, 3) := by decide +kernel
theorem dX7_grow_4 : decode cX7_grow 4 = .ok (.aload_n 0, 1) := by decide +kernel
theorem dX7_grow_5 : decode cX7_grow 5 = .ok (.getfield 28, 3) := by decide +kernel
theorem dX7_grow_8 : decode cX7_grow 8 = .ok (.invokevirtual 102, 3) := by decide +kernel
theorem dX7_grow_11 : decode cX7_grow 11 = .ok (.aload_n 0, 1) := by decide +kernel
theorem dX7_grow_12 : decode cX7_grow 12 = .ok (.getfield 28, 3) := by decide +kernel
theorem dX7_grow_15 : decode cX7_grow 15 = .ok (.iconst 2, 1) := by decide +kernel
theorem dX7_grow_16 : decode cX7_grow 16 = .ok (.aload_n 0, 1) := by decide +kernel
theorem dX7_grow_17 : decode cX7_grow 17 = .ok (.getfield 28, 3) := by decide +kernel
theorem dX7_grow_20 : decode cX7_grow 20 = .ok (.getfield 178, 3) := by decide +kernel
theorem dX7_grow_23 : decode cX7_grow 23 = .ok (.imul, 1) := by decide +kernel
theorem dX7_grow_24 : decode cX7_grow 24 = .ok (.invokevirtual 189, 3) := by decide +kernel
theorem dX7_grow_27 : decode cX7_grow 27 = .ok (.ifCond .ne 24, 3) := by decide +kernel
theorem dX7_grow_30 : decode cX7_grow 30 = .ok (.aload_n 0, 1) := by decide +kernel
theorem dX7_grow_31 : decode cX7_grow 31 = .ok (.getfield 45, 3) := by decide +kernel
theorem dX7_grow_34 : decode cX7_grow 34 = .ok (.aload_n 0, 1) := by decide +kernel
theorem dX7_grow_35 : decode cX7_grow 35 = .ok (.getfield 28, 3) := by decide +kernel
theorem dX7_grow_38 : decode cX7_grow 38 = .ok (.invokevirtual 132, 3) := by decide +kernel
theorem dX7_grow_41 : decode cX7_grow 41 = .ok (.new 127, 3) := by decide +kernel
theorem dX7_grow_44 : decode cX7_grow 44 = .ok (.dup, 1) := by decide +kernel
theorem dX7_grow_45 : decode cX7_grow 45 = .ok (.ldc 176, 2) := by decide +kernel
theorem dX7_grow_47 : decode cX7_grow 47 = .ok (.invokespecial 131, 3) := by decide +kernel
theorem dX7_grow_50 : decode cX7_grow 50 = .ok (.athrow, 1) := by decide +kernel
theorem dX7_grow_51 : decode cX7_grow 51 = .ok (.aload_n 0, 1) := by decide +kernel
theorem dX7_grow_52 : decode cX7_grow 52 = .ok (.getfield 45, 3) := by decide +kernel
theorem dX7_grow_55 : decode cX7_grow 55 = .ok (.invokevirtual 112, 3) := by decide +kernel
theorem dX7_grow_58 : decode cX7_grow 58 = .ok (.aload_n 0, 1) := by decide +kernel
theorem dX7_grow_59 : decode cX7_grow 59 = .ok (.getfield 28, 3) := by decide +kernel
theorem dX7_grow_62 : decode cX7_grow 62 = .ok (.getfield 178, 3) := by decide +kernel
theorem dX7_grow_65 : decode cX7_grow 65 = .ok (.ireturn, 1) := by decide +kernel
theorem dX7_clear_0 : decode cX7_clear 0 = .ok (.aload_n 0, 1) := by decide +kernel
theorem dX7_clear_1 : decode cX7_clear 1 = .ok (.getfield 45, 3) := by decide +kernel
theorem dX7_clear_4 : decode cX7_clear 4 = .ok (.aload_n 0, 1) := by decide +kernel
theorem dX7_clear_5 : decode cX7_clear 5 = .ok (.getfield 28, 3) := by decide +kernel
theorem dX7_clear_8 : decode cX7_clear 8 = .ok (.invokevirtual 102, 3) := by decide +kernel
theorem dX7_clear_11 : decode cX7_clear 11 = .ok (.aload_n 0, 1) := by decide +kernel
theorem dX7_clear_12 : decode cX7_clear 12 = .ok (.getfield 28, 3) := by decide +kernel
theorem dX7_clear_15 : decode cX7_clear 15 = .ok (.invokevirtual 192, 3) := by decide +kernel
theorem dX7_clear_18 : decode cX7_clear 18 = .ok (.istore_n 1, 1) := by decide +kernel
theorem dX7_clear_19 : decode cX7_clear 19 = .ok (.aload_n 0, 1) := by decide +kernel
theorem dX7_clear_20 : decode cX7_clear 20 = .ok (.getfield 45, 3) := by decide +kernel
theorem dX7_clear_23 : decode cX7_clear 23 = .ok (.invokevirtual 112, 3) := by decide +kernel
theorem dX7_clear_26 : decode cX7_clear 26 = .ok (.iload_n 1, 1) := by decide +kernel
theorem dX7_clear_27 : decode cX7_clear 27 = .ok (.ireturn, 1) := by decide +kernel
theorem dX7_undo_0 : decode cX7_undo 0 = .ok (.aload_n 0, 1) := by decide +kernel
theorem dX7_undo_1 : decode cX7_undo 1 = .ok (.getfield 45, 3) := by decide +kernel
theorem dX7_undo_4 : decode cX7_undo 4 = .ok (.getfield 196, 3) := by decide +kernel
theorem dX7_undo_7 : decode cX7_undo 7 = .ok (.ifCond .ne 5, 3) := by decide +kernel
theorem dX7_undo_10 : decode cX7_undo 10 = .ok (.iconst (-1), 1) := by decide +kernel
theorem dX7_undo_11 : decode cX7_undo 11 = .ok (.ireturn, 1) := by decide +kernel
theorem dX7_undo_12 : decode cX7_undo 12 = .ok (.aload_n 0, 1) := by decide +kernel
theorem dX7_undo_13 : decode cX7_undo 13 = .ok (.getfield 45, 3) := by decide +kernel
theorem dX7_undo_16 : decode cX7_undo 16 = .ok (.aload_n 0, 1) := by decide +kernel
theorem dX7_undo_17 : decode cX7_undo 17 = .ok (.getfield 28, 3) := by decide +kernel
theorem dX7_undo_20 : decode cX7_undo 20 = .ok (.invokevirtual 199, 3) := by decide +kernel
theorem dX7_undo_23 : decode cX7_undo 23 = .ok (.aload_n 0, 1) := by decide +kernel
theorem dX7_undo_24 : decode cX7_undo 24 = .ok (.getfield 45, 3) := by decide +kernel
theorem dX7_undo_27 : decode cX7_undo 27 = .ok (.getfield 196, 3) := by decide +kernel
theorem dX7_undo_30 : decode cX7_undo 30 = .ok (.ireturn, 1) := by decide +kernel
theorem dX7_undoCount_0 : decode cX7_undoCount 0 = .ok (.aload_n 0, 1) := by decide +kernel
theorem dX7_undoCount_1 : decode cX7_undoCount 1 = .ok (.getfield 45, 3) := by decide +kernel
theorem dX7_undoCount_4 : decode cX7_undoCount 4 = .ok (.getfield 196, 3) := by decide +kernel
theorem dX7_undoCount_7 : decode cX7_undoCount 7 = .ok (.ireturn, 1) := by decide +kernel
theorem dX7_saveSnapshot_0 : decode cX7_saveSnapshot 0 = .ok (.aload_n 0, 1) := by decide +kernel
theorem dX7_saveSnapshot_1 : decode cX7_saveSnapshot 1 = .ok (.getfield 35, 3) := by decide +kernel
theorem dX7_saveSnapshot_4 : decode cX7_saveSnapshot 4 = .ok (.aload_n 0, 1) := by decide +kernel
theorem dX7_saveSnapshot_5 : decode cX7_saveSnapshot 5 = .ok (.getfield 28, 3) := by decide +kernel
theorem dX7_saveSnapshot_8 : decode cX7_saveSnapshot 8 = .ok (.invokevirtual 109, 3) := by decide +kernel
theorem dX7_saveSnapshot_11 : decode cX7_saveSnapshot 11 = .ok (.aload_n 0, 1) := by decide +kernel
theorem dX7_saveSnapshot_12 : decode cX7_saveSnapshot 12 = .ok (.iconst 1, 1) := by decide +kernel
theorem dX7_saveSnapshot_13 : decode cX7_saveSnapshot 13 = .ok (.putfield 38, 3) := by decide +kernel
theorem dX7_saveSnapshot_16 : decode cX7_saveSnapshot 16 = .ok (.aload_n 0, 1) := by decide +kernel
theorem dX7_saveSnapshot_17 : decode cX7_saveSnapshot 17 = .ok (.getfield 28, 3) := by decide +kernel
theorem dX7_saveSnapshot_20 : decode cX7_saveSnapshot 20 = .ok (.getfield 115, 3) := by decide +kernel
theorem dX7_saveSnapshot_23 : decode cX7_saveSnapshot 23 = .ok (.ireturn, 1) := by decide +kernel
theorem dX7_restoreSnapshot_0 : decode cX7_restoreSnapshot 0 = .ok (.aload_n 0, 1) := by decide +kernel
theorem dX7_restoreSnapshot_1 : decode cX7_restoreSnapshot 1 = .ok (.getfield 38, 3) := by decide +kernel
theorem dX7_restoreSnapshot_4 : decode cX7_restoreSnapshot 4 = .ok (.ifCond .ne 13, 3) := by decide +kernel
theorem dX7_restoreSnapshot_7 : decode cX7_restoreSnapshot 7 = .ok (.new 163, 3) := by decide +kernel
theorem dX7_restoreSnapshot_10 : decode cX7_restoreSnapshot 10 = .ok (.dup, 1) := by decide +kernel
theorem dX7_restoreSnapshot_11 : decode cX7_restoreSnapshot 11 = .ok (.ldc 202, 2) := by decide +kernel
theorem dX7_restoreSnapshot_13 : decode cX7_restoreSnapshot 13 = .ok (.invokespecial 167, 3) := by decide +kernel
theorem dX7_restoreSnapshot_16 : decode cX7_restoreSnapshot 16 = .ok (.athrow, 1) := by decide +kernel
theorem dX7_restoreSnapshot_17 : decode cX7_restoreSnapshot 17 = .ok (.aload_n 0, 1) := by decide +kernel
theorem dX7_restoreSnapshot_18 : decode cX7_restoreSnapshot 18 = .ok (.getfield 28, 3) := by decide +kernel
theorem dX7_restoreSnapshot_21 : decode cX7_restoreSnapshot 21 = .ok (.aload_n 0, 1) := by decide +kernel
theorem dX7_restoreSnapshot_22 : decode cX7_restoreSnapshot 22 = .ok (.getfield 35, 3) := by decide +kernel
theorem dX7_restoreSnapshot_25 : decode cX7_restoreSnapshot 25 = .ok (.invokevirtual 109, 3) := by decide +kernel
theorem dX7_restoreSnapshot_28 : decode cX7_restoreSnapshot 28 = .ok (.aload_n 0, 1) := by decide +kernel
theorem dX7_restoreSnapshot_29 : decode cX7_restoreSnapshot 29 = .ok (.getfield 45, 3) := by decide +kernel
theorem dX7_restoreSnapshot_32 : decode cX7_restoreSnapshot 32 = .ok (.iconst 0, 1) := by decide +kernel
theorem dX7_restoreSnapshot_33 : decode cX7_restoreSnapshot 33 = .ok (.putfield 196, 3) := by decide +kernel
theorem dX7_restoreSnapshot_36 : decode cX7_restoreSnapshot 36 = .ok (.aload_n 0, 1) := by decide +kernel
theorem dX7_restoreSnapshot_37 : decode cX7_restoreSnapshot 37 = .ok (.getfield 28, 3) := by decide +kernel
theorem dX7_restoreSnapshot_40 : decode cX7_restoreSnapshot 40 = .ok (.getfield 115, 3) := by decide +kernel
theorem dX7_restoreSnapshot_43 : decode cX7_restoreSnapshot 43 = .ok (.ireturn, 1) := by decide +kernel
theorem dX7_scriptErrorKind_0 : decode cX7_scriptErrorKind 0 = .ok (.aload_n 0, 1) := by decide +kernel
theorem dX7_scriptErrorKind_1 : decode cX7_scriptErrorKind 1 = .ok (.getfield 21, 3) := by decide +kernel
theorem dX7_scriptErrorKind_4 : decode cX7_scriptErrorKind 4 = .ok (.getfield 99, 3) := by decide +kernel
theorem dX7_scriptErrorKind_7 : decode cX7_scriptErrorKind 7 = .ok (.ireturn, 1) := by decide +kernel
theorem dX7_scriptErrorOffset_0 : decode cX7_scriptErrorOffset 0 = .ok (.aload_n 0, 1) := by decide +kernel
theorem dX7_scriptErrorOffset_1 : decode cX7_scriptErrorOffset 1 = .ok (.getfield 21, 3) := by decide +kernel
theorem dX7_scriptErrorOffset_4 : decode cX7_scriptErrorOffset 4 = .ok (.getfield 204, 3) := by decide +kernel
theorem dX7_scriptErrorOffset_7 : decode cX7_scriptErrorOffset 7 = .ok (.ireturn, 1) := by decide +kernel
theorem dX7_bucketCount_0 : decode cX7_bucketCount 0 = .ok (.aload_n 0, 1) := by decide +kernel
theorem dX7_bucketCount_1 : decode cX7_bucketCount 1 = .ok (.getfield 28, 3) := by decide +kernel
theorem dX7_bucketCount_4 : decode cX7_bucketCount 4 = .ok (.getfield 178, 3) := by decide +kernel
theorem dX7_bucketCount_7 : decode cX7_bucketCount 7 = .ok (.ireturn, 1) := by decide +kernel
theorem dX7_entryCount_0 : decode cX7_entryCount 0 = .ok (.aload_n 0, 1) := by decide +kernel
theorem dX7_entryCount_1 : decode cX7_entryCount 1 = .ok (.getfield 28, 3) := by decide +kernel
theorem dX7_entryCount_4 : decode cX7_entryCount 4 = .ok (.getfield 115, 3) := by decide +kernel
theorem dX7_entryCount_7 : decode cX7_entryCount 7 = .ok (.ireturn, 1) := by decide +kernel
theorem dX7_neighbourhood_0 : decode cX7_neighbourhood 0 = .ok (.aload_n 0, 1) := by decide +kernel
theorem dX7_neighbourhood_1 : decode cX7_neighbourhood 1 = .ok (.getfield 28, 3) := by decide +kernel
theorem dX7_neighbourhood_4 : decode cX7_neighbourhood 4 = .ok (.getfield 207, 3) := by decide +kernel
theorem dX7_neighbourhood_7 : decode cX7_neighbourhood 7 = .ok (.ireturn, 1) := by decide +kernel
theorem dX7_multiplier_0 : decode cX7_multiplier 0 = .ok (.aload_n 0, 1) := by decide +kernel
theorem dX7_multiplier_1 : decode cX7_multiplier 1 = .ok (.getfield 28, 3) := by decide +kernel
theorem dX7_multiplier_4 : decode cX7_multiplier 4 = .ok (.getfield 210, 3) := by decide +kernel
theorem dX7_multiplier_7 : decode cX7_multiplier 7 = .ok (.ireturn, 1) := by decide +kernel
theorem dX7_isPulling_0 : decode cX7_isPulling 0 = .ok (.aload_n 0, 1) := by decide +kernel
theorem dX7_isPulling_1 : decode cX7_isPulling 1 = .ok (.getfield 28, 3) := by decide +kernel
theorem dX7_isPulling_4 : decode cX7_isPulling 4 = .ok (.getfield 64, 3) := by decide +kernel
theorem dX7_isPulling_7 : decode cX7_isPulling 7 = .ok (.ireturn, 1) := by decide +kernel
theorem dX7_keyAt_0 : decode cX7_keyAt 0 = .ok (.aload_n 0, 1) := by decide +kernel
theorem dX7_keyAt_1 : decode cX7_keyAt 1 = .ok (.iload_n 1, 1) := by decide +kernel
theorem dX7_keyAt_2 : decode cX7_keyAt 2 = .ok (.invokevirtual 213, 3) := by decide +kernel
theorem dX7_keyAt_5 : decode cX7_keyAt 5 = .ok (.aload_n 0, 1) := by decide +kernel
theorem dX7_keyAt_6 : decode cX7_keyAt 6 = .ok (.getfield 28, 3) := by decide +kernel
theorem dX7_keyAt_9 : decode cX7_keyAt 9 = .ok (.iload_n 1, 1) := by decide +kernel
theorem dX7_keyAt_10 : decode cX7_keyAt 10 = .ok (.invokevirtual 216, 3) := by decide +kernel
theorem dX7_keyAt_13 : decode cX7_keyAt 13 = .ok (.ireturn, 1) := by decide +kernel
theorem dX7_valueAt_0 : decode cX7_valueAt 0 = .ok (.aload_n 0, 1) := by decide +kernel
theorem dX7_valueAt_1 : decode cX7_valueAt 1 = .ok (.iload_n 1, 1) := by decide +kernel
theorem dX7_valueAt_2 : decode cX7_valueAt 2 = .ok (.invokevirtual 213, 3) := by decide +kernel
theorem dX7_valueAt_5 : decode cX7_valueAt 5 = .ok (.aload_n 0, 1) := by decide +kernel
theorem dX7_valueAt_6 : decode cX7_valueAt 6 = .ok (.getfield 28, 3) := by decide +kernel
theorem dX7_valueAt_9 : decode cX7_valueAt 9 = .ok (.iload_n 1, 1) := by decide +kernel
theorem dX7_valueAt_10 : decode cX7_valueAt 10 = .ok (.invokevirtual 137, 3) := by decide +kernel
theorem dX7_valueAt_13 : decode cX7_valueAt 13 = .ok (.ireturn, 1) := by decide +kernel
theorem dX7_hopBits_0 : decode cX7_hopBits 0 = .ok (.aload_n 0, 1) := by decide +kernel
theorem dX7_hopBits_1 : decode cX7_hopBits 1 = .ok (.iload_n 1, 1) := by decide +kernel
theorem dX7_hopBits_2 : decode cX7_hopBits 2 = .ok (.invokevirtual 213, 3) := by decide +kernel
theorem dX7_hopBits_5 : decode cX7_hopBits 5 = .ok (.aload_n 0, 1) := by decide +kernel
theorem dX7_hopBits_6 : decode cX7_hopBits 6 = .ok (.getfield 28, 3) := by decide +kernel
theorem dX7_hopBits_9 : decode cX7_hopBits 9 = .ok (.iload_n 1, 1) := by decide +kernel
theorem dX7_hopBits_10 : decode cX7_hopBits 10 = .ok (.invokevirtual 219, 3) := by decide +kernel
theorem dX7_hopBits_13 : decode cX7_hopBits 13 = .ok (.ireturn, 1) := by decide +kernel
theorem dX7_entriesOf_0 : decode cX7_entriesOf 0 = .ok (.aload_n 0, 1) := by decide +kernel
theorem dX7_entriesOf_1 : decode cX7_entriesOf 1 = .ok (.iload_n 1, 1) := by decide +kernel
theorem dX7_entriesOf_2 : decode cX7_entriesOf 2 = .ok (.invokevirtual 213, 3) := by decide +kernel
theorem dX7_entriesOf_5 : decode cX7_entriesOf 5 = .ok (.aload_n 0, 1) := by decide +kernel
theorem dX7_entriesOf_6 : decode cX7_entriesOf 6 = .ok (.getfield 28, 3) := by decide +kernel
theorem dX7_entriesOf_9 : decode cX7_entriesOf 9 = .ok (.iload_n 1, 1) := by decide +kernel
theorem dX7_entriesOf_10 : decode cX7_entriesOf 10 = .ok (.invokevirtual 219, 3) := by decide +kernel
theorem dX7_entriesOf_13 : decode cX7_entriesOf 13 = .ok (.invokestatic 222, 3) := by decide +kernel
theorem dX7_entriesOf_16 : decode cX7_entriesOf 16 = .ok (.ireturn, 1) := by decide +kernel
theorem dX7_freeDistance_0 : decode cX7_freeDistance 0 = .ok (.aload_n 0, 1) := by decide +kernel
theorem dX7_freeDistance_1 : decode cX7_freeDistance 1 = .ok (.iload_n 1, 1) := by decide +kernel
theorem dX7_freeDistance_2 : decode cX7_freeDistance 2 = .ok (.invokevirtual 213, 3) := by decide +kernel
theorem dX7_freeDistance_5 : decode cX7_freeDistance 5 = .ok (.aload_n 0, 1) := by decide +kernel
theorem dX7_freeDistance_6 : decode cX7_freeDistance 6 = .ok (.getfield 28, 3) := by decide +kernel
theorem dX7_freeDistance_9 : decode cX7_freeDistance 9 = .ok (.iload_n 1, 1) := by decide +kernel
theorem dX7_freeDistance_10 : decode cX7_freeDistance 10 = .ok (.invokevirtual 227, 3) := by decide +kernel
theorem dX7_freeDistance_13 : decode cX7_freeDistance 13 = .ok (.ireturn, 1) := by decide +kernel
theorem dX7_longestRun_0 : decode cX7_longestRun 0 = .ok (.aload_n 0, 1) := by decide +kernel
theorem dX7_longestRun_1 : decode cX7_longestRun 1 = .ok (.getfield 28, 3) := by decide +kernel
theorem dX7_longestRun_4 : decode cX7_longestRun 4 = .ok (.invokevirtual 230, 3) := by decide +kernel
theorem dX7_longestRun_7 : decode cX7_longestRun 7 = .ok (.ireturn, 1) := by decide +kernel
theorem dX7_fullestHome_0 : decode cX7_fullestHome 0 = .ok (.aload_n 0, 1) := by decide +kernel
theorem dX7_fullestHome_1 : decode cX7_fullestHome 1 = .ok (.getfield 28, 3) := by decide +kernel
theorem dX7_fullestHome_4 : decode cX7_fullestHome 4 = .ok (.invokevirtual 233, 3) := by decide +kernel
theorem dX7_fullestHome_7 : decode cX7_fullestHome 7 = .ok (.ireturn, 1) := by decide +kernel
theorem dX7_homeOf_0 : decode cX7_homeOf 0 = .ok (.iload_n 1, 1) := by decide +kernel
theorem dX7_homeOf_1 : decode cX7_homeOf 1 = .ok (.invokestatic 118, 3) := by decide +kernel
theorem dX7_homeOf_4 : decode cX7_homeOf 4 = .ok (.aload_n 0, 1) := by decide +kernel
theorem dX7_homeOf_5 : decode cX7_homeOf 5 = .ok (.getfield 28, 3) := by decide +kernel
theorem dX7_homeOf_8 : decode cX7_homeOf 8 = .ok (.iload_n 1, 1) := by decide +kernel
theorem dX7_homeOf_9 : decode cX7_homeOf 9 = .ok (.invokevirtual 236, 3) := by decide +kernel
theorem dX7_homeOf_12 : decode cX7_homeOf 12 = .ok (.ireturn, 1) := by decide +kernel
theorem dX7_bucketOf_0 : decode cX7_bucketOf 0 = .ok (.iload_n 1, 1) := by decide +kernel
theorem dX7_bucketOf_1 : decode cX7_bucketOf 1 = .ok (.invokestatic 118, 3) := by decide +kernel
theorem dX7_bucketOf_4 : decode cX7_bucketOf 4 = .ok (.aload_n 0, 1) := by decide +kernel
theorem dX7_bucketOf_5 : decode cX7_bucketOf 5 = .ok (.getfield 28, 3) := by decide +kernel
theorem dX7_bucketOf_8 : decode cX7_bucketOf 8 = .ok (.iload_n 1, 1) := by decide +kernel
theorem dX7_bucketOf_9 : decode cX7_bucketOf 9 = .ok (.invokevirtual 124, 3) := by decide +kernel
theorem dX7_bucketOf_12 : decode cX7_bucketOf 12 = .ok (.ireturn, 1) := by decide +kernel
theorem dX7_valueOf_0 : decode cX7_valueOf 0 = .ok (.iload_n 1, 1) := by decide +kernel
theorem dX7_valueOf_1 : decode cX7_valueOf 1 = .ok (.invokestatic 118, 3) := by decide +kernel
theorem dX7_valueOf_4 : decode cX7_valueOf 4 = .ok (.aload_n 0, 1) := by decide +kernel
theorem dX7_valueOf_5 : decode cX7_valueOf 5 = .ok (.getfield 28, 3) := by decide +kernel
theorem dX7_valueOf_8 : decode cX7_valueOf 8 = .ok (.aload_n 0, 1) := by decide +kernel
theorem dX7_valueOf_9 : decode cX7_valueOf 9 = .ok (.getfield 28, 3) := by decide +kernel
theorem dX7_valueOf_12 : decode cX7_valueOf 12 = .ok (.iload_n 1, 1) := by decide +kernel
theorem dX7_valueOf_13 : decode cX7_valueOf 13 = .ok (.invokevirtual 124, 3) := by decide +kernel
theorem dX7_valueOf_16 : decode cX7_valueOf 16 = .ok (.invokevirtual 137, 3) := by decide +kernel
theorem dX7_valueOf_19 : decode cX7_valueOf 19 = .ok (.ireturn, 1) := by decide +kernel
theorem dX7_distanceOf_0 : decode cX7_distanceOf 0 = .ok (.iload_n 1, 1) := by decide +kernel
theorem dX7_distanceOf_1 : decode cX7_distanceOf 1 = .ok (.invokestatic 118, 3) := by decide +kernel
theorem dX7_distanceOf_4 : decode cX7_distanceOf 4 = .ok (.aload_n 0, 1) := by decide +kernel
theorem dX7_distanceOf_5 : decode cX7_distanceOf 5 = .ok (.getfield 28, 3) := by decide +kernel
theorem dX7_distanceOf_8 : decode cX7_distanceOf 8 = .ok (.aload_n 0, 1) := by decide +kernel
theorem dX7_distanceOf_9 : decode cX7_distanceOf 9 = .ok (.getfield 28, 3) := by decide +kernel
theorem dX7_distanceOf_12 : decode cX7_distanceOf 12 = .ok (.iload_n 1, 1) := by decide +kernel
theorem dX7_distanceOf_13 : decode cX7_distanceOf 13 = .ok (.invokevirtual 124, 3) := by decide +kernel
theorem dX7_distanceOf_16 : decode cX7_distanceOf 16 = .ok (.invokevirtual 239, 3) := by decide +kernel
theorem dX7_distanceOf_19 : decode cX7_distanceOf 19 = .ok (.ireturn, 1) := by decide +kernel
theorem dX7_looksFor_0 : decode cX7_looksFor 0 = .ok (.iload_n 1, 1) := by decide +kernel
theorem dX7_looksFor_1 : decode cX7_looksFor 1 = .ok (.invokestatic 118, 3) := by decide +kernel
theorem dX7_looksFor_4 : decode cX7_looksFor 4 = .ok (.aload_n 0, 1) := by decide +kernel
theorem dX7_looksFor_5 : decode cX7_looksFor 5 = .ok (.getfield 28, 3) := by decide +kernel
theorem dX7_looksFor_8 : decode cX7_looksFor 8 = .ok (.iload_n 1, 1) := by decide +kernel
theorem dX7_looksFor_9 : decode cX7_looksFor 9 = .ok (.invokevirtual 242, 3) := by decide +kernel
theorem dX7_looksFor_12 : decode cX7_looksFor 12 = .ok (.ireturn, 1) := by decide +kernel
theorem dX7_longestDistance_0 : decode cX7_longestDistance 0 = .ok (.aload_n 0, 1) := by decide +kernel
theorem dX7_longestDistance_1 : decode cX7_longestDistance 1 = .ok (.getfield 28, 3) := by decide +kernel
theorem dX7_longestDistance_4 : decode cX7_longestDistance 4 = .ok (.invokevirtual 245, 3) := by decide +kernel
theorem dX7_longestDistance_7 : decode cX7_longestDistance 7 = .ok (.ireturn, 1) := by decide +kernel
theorem dX7_sumOfDistances_0 : decode cX7_sumOfDistances 0 = .ok (.aload_n 0, 1) := by decide +kernel
theorem dX7_sumOfDistances_1 : decode cX7_sumOfDistances 1 = .ok (.getfield 28, 3) := by decide +kernel
theorem dX7_sumOfDistances_4 : decode cX7_sumOfDistances 4 = .ok (.invokevirtual 248, 3) := by decide +kernel
theorem dX7_sumOfDistances_7 : decode cX7_sumOfDistances 7 = .ok (.ireturn, 1) := by decide +kernel
theorem dX7_rank_0 : decode cX7_rank 0 = .ok (.iload_n 1, 1) := by decide +kernel
theorem dX7_rank_1 : decode cX7_rank 1 = .ok (.invokestatic 118, 3) := by decide +kernel
theorem dX7_rank_4 : decode cX7_rank 4 = .ok (.aload_n 0, 1) := by decide +kernel
theorem dX7_rank_5 : decode cX7_rank 5 = .ok (.getfield 28, 3) := by decide +kernel
theorem dX7_rank_8 : decode cX7_rank 8 = .ok (.iload_n 1, 1) := by decide +kernel
theorem dX7_rank_9 : decode cX7_rank 9 = .ok (.invokevirtual 251, 3) := by decide +kernel
theorem dX7_rank_12 : decode cX7_rank 12 = .ok (.ireturn, 1) := by decide +kernel
theorem dX7_whyNoAdd_0 : decode cX7_whyNoAdd 0 = .ok (.iload_n 1, 1) := by decide +kernel
theorem dX7_whyNoAdd_1 : decode cX7_whyNoAdd 1 = .ok (.invokestatic 118, 3) := by decide +kernel
theorem dX7_whyNoAdd_4 : decode cX7_whyNoAdd 4 = .ok (.aload_n 0, 1) := by decide +kernel
theorem dX7_whyNoAdd_5 : decode cX7_whyNoAdd 5 = .ok (.getfield 28, 3) := by decide +kernel
theorem dX7_whyNoAdd_8 : decode cX7_whyNoAdd 8 = .ok (.iload_n 1, 1) := by decide +kernel
theorem dX7_whyNoAdd_9 : decode cX7_whyNoAdd 9 = .ok (.invokevirtual 124, 3) := by decide +kernel
theorem dX7_whyNoAdd_12 : decode cX7_whyNoAdd 12 = .ok (.iconst (-1), 1) := by decide +kernel
theorem dX7_whyNoAdd_13 : decode cX7_whyNoAdd 13 = .ok (.if_icmp .eq 5, 3) := by decide +kernel
theorem dX7_whyNoAdd_16 : decode cX7_whyNoAdd 16 = .ok (.iconst 1, 1) := by decide +kernel
theorem dX7_whyNoAdd_17 : decode cX7_whyNoAdd 17 = .ok (.ireturn, 1) := by decide +kernel
theorem dX7_whyNoAdd_18 : decode cX7_whyNoAdd 18 = .ok (.aload_n 0, 1) := by decide +kernel
theorem dX7_whyNoAdd_19 : decode cX7_whyNoAdd 19 = .ok (.iload_n 1, 1) := by decide +kernel
theorem dX7_whyNoAdd_20 : decode cX7_whyNoAdd 20 = .ok (.invokevirtual 254, 3) := by decide +kernel
theorem dX7_whyNoAdd_23 : decode cX7_whyNoAdd 23 = .ok (.iconst (-1), 1) := by decide +kernel
theorem dX7_whyNoAdd_24 : decode cX7_whyNoAdd 24 = .ok (.if_icmp .ne 7, 3) := by decide +kernel
theorem dX7_whyNoAdd_27 : decode cX7_whyNoAdd 27 = .ok (.iconst 2, 1) := by decide +kernel
theorem dX7_whyNoAdd_28 : decode cX7_whyNoAdd 28 = .ok (.goto 4, 3) := by decide +kernel
theorem dX7_whyNoAdd_31 : decode cX7_whyNoAdd 31 = .ok (.iconst 0, 1) := by decide +kernel
theorem dX7_whyNoAdd_32 : decode cX7_whyNoAdd 32 = .ok (.ireturn, 1) := by decide +kernel
theorem dX7_placeFor_0 : decode cX7_placeFor 0 = .ok (.iload_n 1, 1) := by decide +kernel
theorem dX7_placeFor_1 : decode cX7_placeFor 1 = .ok (.invokestatic 118, 3) := by decide +kernel
theorem dX7_placeFor_4 : decode cX7_placeFor 4 = .ok (.aload_n 0, 1) := by decide +kernel
theorem dX7_placeFor_5 : decode cX7_placeFor 5 = .ok (.iload_n 1, 1) := by decide +kernel
theorem dX7_placeFor_6 : decode cX7_placeFor 6 = .ok (.invokevirtual 254, 3) := by decide +kernel
theorem dX7_placeFor_9 : decode cX7_placeFor 9 = .ok (.ireturn, 1) := by decide +kernel
theorem dX7_movesFor_0 : decode cX7_movesFor 0 = .ok (.iload_n 1, 1) := by decide +kernel
theorem dX7_movesFor_1 : decode cX7_movesFor 1 = .ok (.invokestatic 118, 3) := by decide +kernel
theorem dX7_movesFor_4 : decode cX7_movesFor 4 = .ok (.aload_n 0, 1) := by decide +kernel
theorem dX7_movesFor_5 : decode cX7_movesFor 5 = .ok (.iload_n 1, 1) := by decide +kernel
theorem dX7_movesFor_6 : decode cX7_movesFor 6 = .ok (.invokevirtual 254, 3) := by decide +kernel
theorem dX7_movesFor_9 : decode cX7_movesFor 9 = .ok (.iconst (-1), 1) := by decide +kernel
theorem dX7_movesFor_10 : decode cX7_movesFor 10 = .ok (.if_icmp .ne 5, 3) := by decide +kernel
theorem dX7_movesFor_13 : decode cX7_movesFor 13 = .ok (.iconst (-1), 1) := by decide +kernel
theorem dX7_movesFor_14 : decode cX7_movesFor 14 = .ok (.ireturn, 1) := by decide +kernel
theorem dX7_movesFor_15 : decode cX7_movesFor 15 = .ok (.aload_n 0, 1) := by decide +kernel
theorem dX7_movesFor_16 : decode cX7_movesFor 16 = .ok (.getfield 32, 3) := by decide +kernel
theorem dX7_movesFor_19 : decode cX7_movesFor 19 = .ok (.getfield 178, 3) := by decide +kernel
theorem dX7_movesFor_22 : decode cX7_movesFor 22 = .ok (.aload_n 0, 1) := by decide +kernel
theorem dX7_movesFor_23 : decode cX7_movesFor 23 = .ok (.getfield 28, 3) := by decide +kernel
theorem dX7_movesFor_26 : decode cX7_movesFor 26 = .ok (.getfield 178, 3) := by decide +kernel
theorem dX7_movesFor_29 : decode cX7_movesFor 29 = .ok (.if_icmp .ne 21, 3) := by decide +kernel
theorem dX7_movesFor_32 : decode cX7_movesFor 32 = .ok (.aload_n 0, 1) := by decide +kernel
theorem dX7_movesFor_33 : decode cX7_movesFor 33 = .ok (.getfield 32, 3) := by decide +kernel
theorem dX7_movesFor_36 : decode cX7_movesFor 36 = .ok (.getfield 257, 3) := by decide +kernel
theorem dX7_movesFor_39 : decode cX7_movesFor 39 = .ok (.aload_n 0, 1) := by decide +kernel
theorem dX7_movesFor_40 : decode cX7_movesFor 40 = .ok (.getfield 28, 3) := by decide +kernel
theorem dX7_movesFor_43 : decode cX7_movesFor 43 = .ok (.getfield 257, 3) := by decide +kernel
theorem dX7_movesFor_46 : decode cX7_movesFor 46 = .ok (.isub, 1) := by decide +kernel
theorem dX7_movesFor_47 : decode cX7_movesFor 47 = .ok (.goto 4, 3) := by decide +kernel
theorem dX7_movesFor_50 : decode cX7_movesFor 50 = .ok (.iconst 0, 1) := by decide +kernel
theorem dX7_movesFor_51 : decode cX7_movesFor 51 = .ok (.ireturn, 1) := by decide +kernel
theorem dX7_bucketsAfter_0 : decode cX7_bucketsAfter 0 = .ok (.iload_n 1, 1) := by decide +kernel
theorem dX7_bucketsAfter_1 : decode cX7_bucketsAfter 1 = .ok (.invokestatic 118, 3) := by decide +kernel
theorem dX7_bucketsAfter_4 : decode cX7_bucketsAfter 4 = .ok (.aload_n 0, 1) := by decide +kernel
theorem dX7_bucketsAfter_5 : decode cX7_bucketsAfter 5 = .ok (.iload_n 1, 1) := by decide +kernel
theorem dX7_bucketsAfter_6 : decode cX7_bucketsAfter 6 = .ok (.invokevirtual 254, 3) := by decide +kernel
theorem dX7_bucketsAfter_9 : decode cX7_bucketsAfter 9 = .ok (.iconst (-1), 1) := by decide +kernel
theorem dX7_bucketsAfter_10 : decode cX7_bucketsAfter 10 = .ok (.if_icmp .ne 7, 3) := by decide +kernel
theorem dX7_bucketsAfter_13 : decode cX7_bucketsAfter 13 = .ok (.iconst (-1), 1) := by decide +kernel
theorem dX7_bucketsAfter_14 : decode cX7_bucketsAfter 14 = .ok (.goto 10, 3) := by decide +kernel
theorem dX7_bucketsAfter_17 : decode cX7_bucketsAfter 17 = .ok (.aload_n 0, 1) := by decide +kernel
theorem dX7_bucketsAfter_18 : decode cX7_bucketsAfter 18 = .ok (.getfield 32, 3) := by decide +kernel
theorem dX7_bucketsAfter_21 : decode cX7_bucketsAfter 21 = .ok (.getfield 178, 3) := by decide +kernel
theorem dX7_bucketsAfter_24 : decode cX7_bucketsAfter 24 = .ok (.ireturn, 1) := by decide +kernel
theorem dX7_pullsFor_0 : decode cX7_pullsFor 0 = .ok (.iload_n 1, 1) := by decide +kernel
theorem dX7_pullsFor_1 : decode cX7_pullsFor 1 = .ok (.invokestatic 118, 3) := by decide +kernel
theorem dX7_pullsFor_4 : decode cX7_pullsFor 4 = .ok (.aload_n 0, 1) := by decide +kernel
theorem dX7_pullsFor_5 : decode cX7_pullsFor 5 = .ok (.getfield 28, 3) := by decide +kernel
theorem dX7_pullsFor_8 : decode cX7_pullsFor 8 = .ok (.iload_n 1, 1) := by decide +kernel
theorem dX7_pullsFor_9 : decode cX7_pullsFor 9 = .ok (.invokevirtual 124, 3) := by decide +kernel
theorem dX7_pullsFor_12 : decode cX7_pullsFor 12 = .ok (.iconst (-1), 1) := by decide +kernel
theorem dX7_pullsFor_13 : decode cX7_pullsFor 13 = .ok (.if_icmp .ne 5, 3) := by decide +kernel
theorem dX7_pullsFor_16 : decode cX7_pullsFor 16 = .ok (.iconst (-1), 1) := by decide +kernel
theorem dX7_pullsFor_17 : decode cX7_pullsFor 17 = .ok (.ireturn, 1) := by decide +kernel
theorem dX7_pullsFor_18 : decode cX7_pullsFor 18 = .ok (.aload_n 0, 1) := by decide +kernel
theorem dX7_pullsFor_19 : decode cX7_pullsFor 19 = .ok (.getfield 32, 3) := by decide +kernel
theorem dX7_pullsFor_22 : decode cX7_pullsFor 22 = .ok (.aload_n 0, 1) := by decide +kernel
theorem dX7_pullsFor_23 : decode cX7_pullsFor 23 = .ok (.getfield 28, 3) := by decide +kernel
theorem dX7_pullsFor_26 : decode cX7_pullsFor 26 = .ok (.invokevirtual 109, 3) := by decide +kernel
theorem dX7_pullsFor_29 : decode cX7_pullsFor 29 = .ok (.aload_n 0, 1) := by decide +kernel
theorem dX7_pullsFor_30 : decode cX7_pullsFor 30 = .ok (.getfield 32, 3) := by decide +kernel
theorem dX7_pullsFor_33 : decode cX7_pullsFor 33 = .ok (.iload_n 1, 1) := by decide +kernel
theorem dX7_pullsFor_34 : decode cX7_pullsFor 34 = .ok (.invokevirtual 67, 3) := by decide +kernel
theorem dX7_pullsFor_37 : decode cX7_pullsFor 37 = .ok (.pop, 1) := by decide +kernel
theorem dX7_pullsFor_38 : decode cX7_pullsFor 38 = .ok (.aload_n 0, 1) := by decide +kernel
theorem dX7_pullsFor_39 : decode cX7_pullsFor 39 = .ok (.getfield 32, 3) := by decide +kernel
theorem dX7_pullsFor_42 : decode cX7_pullsFor 42 = .ok (.getfield 260, 3) := by decide +kernel
theorem dX7_pullsFor_45 : decode cX7_pullsFor 45 = .ok (.aload_n 0, 1) := by decide +kernel
theorem dX7_pullsFor_46 : decode cX7_pullsFor 46 = .ok (.getfield 28, 3) := by decide +kernel
theorem dX7_pullsFor_49 : decode cX7_pullsFor 49 = .ok (.getfield 260, 3) := by decide +kernel
theorem dX7_pullsFor_52 : decode cX7_pullsFor 52 = .ok (.isub, 1) := by decide +kernel
theorem dX7_pullsFor_53 : decode cX7_pullsFor 53 = .ok (.ireturn, 1) := by decide +kernel
theorem dX7_bucketsWith_0 : decode cX7_bucketsWith 0 = .ok (.iload_n 1, 1) := by decide +kernel
theorem dX7_bucketsWith_1 : decode cX7_bucketsWith 1 = .ok (.invokestatic 168, 3) := by decide +kernel
theorem dX7_bucketsWith_4 : decode cX7_bucketsWith 4 = .ok (.ifCond .ne 13, 3) := by decide +kernel
theorem dX7_bucketsWith_7 : decode cX7_bucketsWith 7 = .ok (.new 79, 3) := by decide +kernel
theorem dX7_bucketsWith_10 : decode cX7_bucketsWith 10 = .ok (.dup, 1) := by decide +kernel
theorem dX7_bucketsWith_11 : decode cX7_bucketsWith 11 = .ok (.ldc 171, 2) := by decide +kernel
theorem dX7_bucketsWith_13 : decode cX7_bucketsWith 13 = .ok (.invokespecial 83, 3) := by decide +kernel
theorem dX7_bucketsWith_16 : decode cX7_bucketsWith 16 = .ok (.athrow, 1) := by decide +kernel
theorem dX7_bucketsWith_17 : decode cX7_bucketsWith 17 = .ok (.aload_n 0, 1) := by decide +kernel
theorem dX7_bucketsWith_18 : decode cX7_bucketsWith 18 = .ok (.getfield 32, 3) := by decide +kernel
theorem dX7_bucketsWith_21 : decode cX7_bucketsWith 21 = .ok (.aload_n 0, 1) := by decide +kernel
theorem dX7_bucketsWith_22 : decode cX7_bucketsWith 22 = .ok (.getfield 28, 3) := by decide +kernel
theorem dX7_bucketsWith_25 : decode cX7_bucketsWith 25 = .ok (.invokevirtual 109, 3) := by decide +kernel
