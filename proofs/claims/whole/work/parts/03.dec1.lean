theorem dX7_bucketsWith_28 : decode cX7_bucketsWith 28 = .ok (.aload_n 0, 1) := by decide +kernel
theorem dX7_bucketsWith_29 : decode cX7_bucketsWith 29 = .ok (.getfield 32, 3) := by decide +kernel
theorem dX7_bucketsWith_32 : decode cX7_bucketsWith 32 = .ok (.iload_n 1, 1) := by decide +kernel
theorem dX7_bucketsWith_33 : decode cX7_bucketsWith 33 = .ok (.invokevirtual 173, 3) := by decide +kernel
theorem dX7_bucketsWith_36 : decode cX7_bucketsWith 36 = .ok (.ifCond .eq 13, 3) := by decide +kernel
theorem dX7_bucketsWith_39 : decode cX7_bucketsWith 39 = .ok (.aload_n 0, 1) := by decide +kernel
theorem dX7_bucketsWith_40 : decode cX7_bucketsWith 40 = .ok (.getfield 32, 3) := by decide +kernel
theorem dX7_bucketsWith_43 : decode cX7_bucketsWith 43 = .ok (.getfield 178, 3) := by decide +kernel
theorem dX7_bucketsWith_46 : decode cX7_bucketsWith 46 = .ok (.goto 4, 3) := by decide +kernel
theorem dX7_bucketsWith_49 : decode cX7_bucketsWith 49 = .ok (.iconst (-1), 1) := by decide +kernel
theorem dX7_bucketsWith_50 : decode cX7_bucketsWith 50 = .ok (.ireturn, 1) := by decide +kernel
theorem dX7_bestMultiplier_0 : decode cX7_bestMultiplier 0 = .ok (.iload_n 1, 1) := by decide +kernel
theorem dX7_bestMultiplier_1 : decode cX7_bestMultiplier 1 = .ok (.iconst 1, 1) := by decide +kernel
theorem dX7_bestMultiplier_2 : decode cX7_bestMultiplier 2 = .ok (.if_icmp .lt 9, 3) := by decide +kernel
theorem dX7_bestMultiplier_5 : decode cX7_bestMultiplier 5 = .ok (.iload_n 1, 1) := by decide +kernel
theorem dX7_bestMultiplier_6 : decode cX7_bestMultiplier 6 = .ok (.bipush 30, 2) := by decide +kernel
theorem dX7_bestMultiplier_8 : decode cX7_bestMultiplier 8 = .ok (.if_icmp .le 14, 3) := by decide +kernel
theorem dX7_bestMultiplier_11 : decode cX7_bestMultiplier 11 = .ok (.new 79, 3) := by decide +kernel
theorem dX7_bestMultiplier_14 : decode cX7_bestMultiplier 14 = .ok (.dup, 1) := by decide +kernel
theorem dX7_bestMultiplier_15 : decode cX7_bestMultiplier 15 = .ok (.ldc_w 263, 3) := by decide +kernel
theorem dX7_bestMultiplier_18 : decode cX7_bestMultiplier 18 = .ok (.invokespecial 83, 3) := by decide +kernel
theorem dX7_bestMultiplier_21 : decode cX7_bestMultiplier 21 = .ok (.athrow, 1) := by decide +kernel
theorem dX7_bestMultiplier_22 : decode cX7_bestMultiplier 22 = .ok (.iconst (-1), 1) := by decide +kernel
theorem dX7_bestMultiplier_23 : decode cX7_bestMultiplier 23 = .ok (.istore_n 2, 1) := by decide +kernel
theorem dX7_bestMultiplier_24 : decode cX7_bestMultiplier 24 = .ok (.iconst 0, 1) := by decide +kernel
theorem dX7_bestMultiplier_25 : decode cX7_bestMultiplier 25 = .ok (.istore_n 3, 1) := by decide +kernel
theorem dX7_bestMultiplier_26 : decode cX7_bestMultiplier 26 = .ok (.iconst 1, 1) := by decide +kernel
theorem dX7_bestMultiplier_27 : decode cX7_bestMultiplier 27 = .ok (.istore 4, 2) := by decide +kernel
theorem dX7_bestMultiplier_29 : decode cX7_bestMultiplier 29 = .ok (.iload 4, 2) := by decide +kernel
theorem dX7_bestMultiplier_31 : decode cX7_bestMultiplier 31 = .ok (.iload_n 1, 1) := by decide +kernel
theorem dX7_bestMultiplier_32 : decode cX7_bestMultiplier 32 = .ok (.if_icmp .gt 78, 3) := by decide +kernel
theorem dX7_bestMultiplier_35 : decode cX7_bestMultiplier 35 = .ok (.aload_n 0, 1) := by decide +kernel
theorem dX7_bestMultiplier_36 : decode cX7_bestMultiplier 36 = .ok (.getfield 32, 3) := by decide +kernel
theorem dX7_bestMultiplier_39 : decode cX7_bestMultiplier 39 = .ok (.aload_n 0, 1) := by decide +kernel
theorem dX7_bestMultiplier_40 : decode cX7_bestMultiplier 40 = .ok (.getfield 28, 3) := by decide +kernel
theorem dX7_bestMultiplier_43 : decode cX7_bestMultiplier 43 = .ok (.invokevirtual 109, 3) := by decide +kernel
theorem dX7_bestMultiplier_46 : decode cX7_bestMultiplier 46 = .ok (.aload_n 0, 1) := by decide +kernel
theorem dX7_bestMultiplier_47 : decode cX7_bestMultiplier 47 = .ok (.getfield 32, 3) := by decide +kernel
theorem dX7_bestMultiplier_50 : decode cX7_bestMultiplier 50 = .ok (.iload 4, 2) := by decide +kernel
theorem dX7_bestMultiplier_52 : decode cX7_bestMultiplier 52 = .ok (.invokevirtual 186, 3) := by decide +kernel
theorem dX7_bestMultiplier_55 : decode cX7_bestMultiplier 55 = .ok (.ifCond .eq 49, 3) := by decide +kernel
theorem dX7_bestMultiplier_58 : decode cX7_bestMultiplier 58 = .ok (.aload_n 0, 1) := by decide +kernel
theorem dX7_bestMultiplier_59 : decode cX7_bestMultiplier 59 = .ok (.getfield 32, 3) := by decide +kernel
theorem dX7_bestMultiplier_62 : decode cX7_bestMultiplier 62 = .ok (.getfield 178, 3) := by decide +kernel
theorem dX7_bestMultiplier_65 : decode cX7_bestMultiplier 65 = .ok (.aload_n 0, 1) := by decide +kernel
theorem dX7_bestMultiplier_66 : decode cX7_bestMultiplier 66 = .ok (.getfield 28, 3) := by decide +kernel
theorem dX7_bestMultiplier_69 : decode cX7_bestMultiplier 69 = .ok (.getfield 178, 3) := by decide +kernel
theorem dX7_bestMultiplier_72 : decode cX7_bestMultiplier 72 = .ok (.if_icmp .eq 6, 3) := by decide +kernel
theorem dX7_bestMultiplier_75 : decode cX7_bestMultiplier 75 = .ok (.goto 29, 3) := by decide +kernel
theorem dX7_bestMultiplier_78 : decode cX7_bestMultiplier 78 = .ok (.aload_n 0, 1) := by decide +kernel
theorem dX7_bestMultiplier_79 : decode cX7_bestMultiplier 79 = .ok (.getfield 32, 3) := by decide +kernel
theorem dX7_bestMultiplier_82 : decode cX7_bestMultiplier 82 = .ok (.invokevirtual 248, 3) := by decide +kernel
theorem dX7_bestMultiplier_85 : decode cX7_bestMultiplier 85 = .ok (.istore 5, 2) := by decide +kernel
theorem dX7_bestMultiplier_87 : decode cX7_bestMultiplier 87 = .ok (.iload_n 2, 1) := by decide +kernel
theorem dX7_bestMultiplier_88 : decode cX7_bestMultiplier 88 = .ok (.iconst (-1), 1) := by decide +kernel
theorem dX7_bestMultiplier_89 : decode cX7_bestMultiplier 89 = .ok (.if_icmp .eq 9, 3) := by decide +kernel
theorem dX7_bestMultiplier_92 : decode cX7_bestMultiplier 92 = .ok (.iload 5, 2) := by decide +kernel
theorem dX7_bestMultiplier_94 : decode cX7_bestMultiplier 94 = .ok (.iload_n 3, 1) := by decide +kernel
theorem dX7_bestMultiplier_95 : decode cX7_bestMultiplier 95 = .ok (.if_icmp .ge 9, 3) := by decide +kernel
theorem dX7_bestMultiplier_98 : decode cX7_bestMultiplier 98 = .ok (.iload 4, 2) := by decide +kernel
theorem dX7_bestMultiplier_100 : decode cX7_bestMultiplier 100 = .ok (.istore_n 2, 1) := by decide +kernel
theorem dX7_bestMultiplier_101 : decode cX7_bestMultiplier 101 = .ok (.iload 5, 2) := by decide +kernel
theorem dX7_bestMultiplier_103 : decode cX7_bestMultiplier 103 = .ok (.istore_n 3, 1) := by decide +kernel
theorem dX7_bestMultiplier_104 : decode cX7_bestMultiplier 104 = .ok (.iinc 4 1, 3) := by decide +kernel
theorem dX7_bestMultiplier_107 : decode cX7_bestMultiplier 107 = .ok (.goto (-78), 3) := by decide +kernel
theorem dX7_bestMultiplier_110 : decode cX7_bestMultiplier 110 = .ok (.iload_n 2, 1) := by decide +kernel
theorem dX7_bestMultiplier_111 : decode cX7_bestMultiplier 111 = .ok (.ireturn, 1) := by decide +kernel
theorem dX7_moves_0 : decode cX7_moves 0 = .ok (.aload_n 0, 1) := by decide +kernel
theorem dX7_moves_1 : decode cX7_moves 1 = .ok (.getfield 28, 3) := by decide +kernel
theorem dX7_moves_4 : decode cX7_moves 4 = .ok (.getfield 257, 3) := by decide +kernel
theorem dX7_moves_7 : decode cX7_moves 7 = .ok (.ireturn, 1) := by decide +kernel
theorem dX7_pulls_0 : decode cX7_pulls 0 = .ok (.aload_n 0, 1) := by decide +kernel
theorem dX7_pulls_1 : decode cX7_pulls 1 = .ok (.getfield 28, 3) := by decide +kernel
theorem dX7_pulls_4 : decode cX7_pulls 4 = .ok (.getfield 260, 3) := by decide +kernel
theorem dX7_pulls_7 : decode cX7_pulls 7 = .ok (.ireturn, 1) := by decide +kernel
theorem dX7_growths_0 : decode cX7_growths 0 = .ok (.aload_n 0, 1) := by decide +kernel
theorem dX7_growths_1 : decode cX7_growths 1 = .ok (.getfield 28, 3) := by decide +kernel
theorem dX7_growths_4 : decode cX7_growths 4 = .ok (.getfield 265, 3) := by decide +kernel
theorem dX7_growths_7 : decode cX7_growths 7 = .ok (.ireturn, 1) := by decide +kernel
theorem dX7_addedCount_0 : decode cX7_addedCount 0 = .ok (.aload_n 0, 1) := by decide +kernel
theorem dX7_addedCount_1 : decode cX7_addedCount 1 = .ok (.getfield 28, 3) := by decide +kernel
theorem dX7_addedCount_4 : decode cX7_addedCount 4 = .ok (.getfield 268, 3) := by decide +kernel
theorem dX7_addedCount_7 : decode cX7_addedCount 7 = .ok (.ireturn, 1) := by decide +kernel
theorem dX7_removedCount_0 : decode cX7_removedCount 0 = .ok (.aload_n 0, 1) := by decide +kernel
theorem dX7_removedCount_1 : decode cX7_removedCount 1 = .ok (.getfield 28, 3) := by decide +kernel
theorem dX7_removedCount_4 : decode cX7_removedCount 4 = .ok (.getfield 271, 3) := by decide +kernel
theorem dX7_removedCount_7 : decode cX7_removedCount 7 = .ok (.ireturn, 1) := by decide +kernel
theorem dX7_meanDistance_0 : decode cX7_meanDistance 0 = .ok (.aload_n 0, 1) := by decide +kernel
theorem dX7_meanDistance_1 : decode cX7_meanDistance 1 = .ok (.getfield 28, 3) := by decide +kernel
theorem dX7_meanDistance_4 : decode cX7_meanDistance 4 = .ok (.getfield 115, 3) := by decide +kernel
theorem dX7_meanDistance_7 : decode cX7_meanDistance 7 = .ok (.ifCond .ne 7, 3) := by decide +kernel
theorem dX7_meanDistance_10 : decode cX7_meanDistance 10 = .ok (.dconst 0, 1) := by decide +kernel
theorem dX7_meanDistance_11 : decode cX7_meanDistance 11 = .ok (.goto 20, 3) := by decide +kernel
theorem dX7_meanDistance_14 : decode cX7_meanDistance 14 = .ok (.aload_n 0, 1) := by decide +kernel
theorem dX7_meanDistance_15 : decode cX7_meanDistance 15 = .ok (.getfield 28, 3) := by decide +kernel
theorem dX7_meanDistance_18 : decode cX7_meanDistance 18 = .ok (.invokevirtual 248, 3) := by decide +kernel
theorem dX7_meanDistance_21 : decode cX7_meanDistance 21 = .ok (.i2d, 1) := by decide +kernel
theorem dX7_meanDistance_22 : decode cX7_meanDistance 22 = .ok (.aload_n 0, 1) := by decide +kernel
theorem dX7_meanDistance_23 : decode cX7_meanDistance 23 = .ok (.getfield 28, 3) := by decide +kernel
theorem dX7_meanDistance_26 : decode cX7_meanDistance 26 = .ok (.getfield 115, 3) := by decide +kernel
theorem dX7_meanDistance_29 : decode cX7_meanDistance 29 = .ok (.i2d, 1) := by decide +kernel
theorem dX7_meanDistance_30 : decode cX7_meanDistance 30 = .ok (.ddiv, 1) := by decide +kernel
theorem dX7_meanDistance_31 : decode cX7_meanDistance 31 = .ok (.dreturn, 1) := by decide +kernel
theorem dX7_load_0 : decode cX7_load 0 = .ok (.aload_n 0, 1) := by decide +kernel
theorem dX7_load_1 : decode cX7_load 1 = .ok (.getfield 28, 3) := by decide +kernel
theorem dX7_load_4 : decode cX7_load 4 = .ok (.getfield 178, 3) := by decide +kernel
theorem dX7_load_7 : decode cX7_load 7 = .ok (.ifCond .ne 7, 3) := by decide +kernel
theorem dX7_load_10 : decode cX7_load 10 = .ok (.fconst 0, 1) := by decide +kernel
theorem dX7_load_11 : decode cX7_load 11 = .ok (.goto 20, 3) := by decide +kernel
theorem dX7_load_14 : decode cX7_load 14 = .ok (.aload_n 0, 1) := by decide +kernel
theorem dX7_load_15 : decode cX7_load 15 = .ok (.getfield 28, 3) := by decide +kernel
theorem dX7_load_18 : decode cX7_load 18 = .ok (.getfield 115, 3) := by decide +kernel
theorem dX7_load_21 : decode cX7_load 21 = .ok (.i2f, 1) := by decide +kernel
theorem dX7_load_22 : decode cX7_load 22 = .ok (.aload_n 0, 1) := by decide +kernel
theorem dX7_load_23 : decode cX7_load 23 = .ok (.getfield 28, 3) := by decide +kernel
theorem dX7_load_26 : decode cX7_load 26 = .ok (.getfield 178, 3) := by decide +kernel
theorem dX7_load_29 : decode cX7_load 29 = .ok (.i2f, 1) := by decide +kernel
theorem dX7_load_30 : decode cX7_load 30 = .ok (.fdiv, 1) := by decide +kernel
theorem dX7_load_31 : decode cX7_load 31 = .ok (.freturn, 1) := by decide +kernel
theorem dX7_violations_0 : decode cX7_violations 0 = .ok (.aload_n 0, 1) := by decide +kernel
theorem dX7_violations_1 : decode cX7_violations 1 = .ok (.getfield 28, 3) := by decide +kernel
theorem dX7_violations_4 : decode cX7_violations 4 = .ok (.getfield 268, 3) := by decide +kernel
theorem dX7_violations_7 : decode cX7_violations 7 = .ok (.aload_n 0, 1) := by decide +kernel
theorem dX7_violations_8 : decode cX7_violations 8 = .ok (.getfield 28, 3) := by decide +kernel
theorem dX7_violations_11 : decode cX7_violations 11 = .ok (.getfield 271, 3) := by decide +kernel
theorem dX7_violations_14 : decode cX7_violations 14 = .ok (.aload_n 0, 1) := by decide +kernel
theorem dX7_violations_15 : decode cX7_violations 15 = .ok (.getfield 28, 3) := by decide +kernel
theorem dX7_violations_18 : decode cX7_violations 18 = .ok (.getfield 115, 3) := by decide +kernel
theorem dX7_violations_21 : decode cX7_violations 21 = .ok (.iadd, 1) := by decide +kernel
theorem dX7_violations_22 : decode cX7_violations 22 = .ok (.isub, 1) := by decide +kernel
theorem dX7_violations_23 : decode cX7_violations 23 = .ok (.invokestatic 274, 3) := by decide +kernel
theorem dX7_violations_26 : decode cX7_violations 26 = .ok (.istore_n 1, 1) := by decide +kernel
theorem dX7_violations_27 : decode cX7_violations 27 = .ok (.aload_n 0, 1) := by decide +kernel
theorem dX7_violations_28 : decode cX7_violations 28 = .ok (.getfield 28, 3) := by decide +kernel
theorem dX7_violations_31 : decode cX7_violations 31 = .ok (.invokevirtual 279, 3) := by decide +kernel
theorem dX7_violations_34 : decode cX7_violations 34 = .ok (.aload_n 0, 1) := by decide +kernel
theorem dX7_violations_35 : decode cX7_violations 35 = .ok (.getfield 28, 3) := by decide +kernel
theorem dX7_violations_38 : decode cX7_violations 38 = .ok (.invokevirtual 282, 3) := by decide +kernel
theorem dX7_violations_41 : decode cX7_violations 41 = .ok (.iadd, 1) := by decide +kernel
theorem dX7_violations_42 : decode cX7_violations 42 = .ok (.aload_n 0, 1) := by decide +kernel
theorem dX7_violations_43 : decode cX7_violations 43 = .ok (.getfield 28, 3) := by decide +kernel
theorem dX7_violations_46 : decode cX7_violations 46 = .ok (.invokevirtual 285, 3) := by decide +kernel
theorem dX7_violations_49 : decode cX7_violations 49 = .ok (.iadd, 1) := by decide +kernel
theorem dX7_violations_50 : decode cX7_violations 50 = .ok (.iload_n 1, 1) := by decide +kernel
theorem dX7_violations_51 : decode cX7_violations 51 = .ok (.iadd, 1) := by decide +kernel
theorem dX7_violations_52 : decode cX7_violations 52 = .ok (.ireturn, 1) := by decide +kernel
theorem dX7_writeTable_0 : decode cX7_writeTable 0 = .ok (.aload_n 0, 1) := by decide +kernel
theorem dX7_writeTable_1 : decode cX7_writeTable 1 = .ok (.getfield 52, 3) := by decide +kernel
theorem dX7_writeTable_4 : decode cX7_writeTable 4 = .ok (.invokevirtual 288, 3) := by decide +kernel
theorem dX7_writeTable_7 : decode cX7_writeTable 7 = .ok (.iconst 0, 1) := by decide +kernel
theorem dX7_writeTable_8 : decode cX7_writeTable 8 = .ok (.istore_n 1, 1) := by decide +kernel
theorem dX7_writeTable_9 : decode cX7_writeTable 9 = .ok (.iload_n 1, 1) := by decide +kernel
theorem dX7_writeTable_10 : decode cX7_writeTable 10 = .ok (.aload_n 0, 1) := by decide +kernel
theorem dX7_writeTable_11 : decode cX7_writeTable 11 = .ok (.getfield 28, 3) := by decide +kernel
theorem dX7_writeTable_14 : decode cX7_writeTable 14 = .ok (.getfield 178, 3) := by decide +kernel
theorem dX7_writeTable_17 : decode cX7_writeTable 17 = .ok (.if_icmp .ge 91, 3) := by decide +kernel
theorem dX7_writeTable_20 : decode cX7_writeTable 20 = .ok (.iload_n 1, 1) := by decide +kernel
theorem dX7_writeTable_21 : decode cX7_writeTable 21 = .ok (.ifCond .le 12, 3) := by decide +kernel
theorem dX7_writeTable_24 : decode cX7_writeTable 24 = .ok (.aload_n 0, 1) := by decide +kernel
theorem dX7_writeTable_25 : decode cX7_writeTable 25 = .ok (.getfield 52, 3) := by decide +kernel
theorem dX7_writeTable_28 : decode cX7_writeTable 28 = .ok (.bipush 32, 2) := by decide +kernel
theorem dX7_writeTable_30 : decode cX7_writeTable 30 = .ok (.invokevirtual 289, 3) := by decide +kernel
theorem dX7_writeTable_33 : decode cX7_writeTable 33 = .ok (.aload_n 0, 1) := by decide +kernel
theorem dX7_writeTable_34 : decode cX7_writeTable 34 = .ok (.getfield 28, 3) := by decide +kernel
theorem dX7_writeTable_37 : decode cX7_writeTable 37 = .ok (.iload_n 1, 1) := by decide +kernel
theorem dX7_writeTable_38 : decode cX7_writeTable 38 = .ok (.invokevirtual 216, 3) := by decide +kernel
theorem dX7_writeTable_41 : decode cX7_writeTable 41 = .ok (.iconst (-1), 1) := by decide +kernel
theorem dX7_writeTable_42 : decode cX7_writeTable 42 = .ok (.if_icmp .ne 15, 3) := by decide +kernel
theorem dX7_writeTable_45 : decode cX7_writeTable 45 = .ok (.aload_n 0, 1) := by decide +kernel
theorem dX7_writeTable_46 : decode cX7_writeTable 46 = .ok (.getfield 52, 3) := by decide +kernel
theorem dX7_writeTable_49 : decode cX7_writeTable 49 = .ok (.bipush 46, 2) := by decide +kernel
theorem dX7_writeTable_51 : decode cX7_writeTable 51 = .ok (.invokevirtual 289, 3) := by decide +kernel
theorem dX7_writeTable_54 : decode cX7_writeTable 54 = .ok (.goto 48, 3) := by decide +kernel
theorem dX7_writeTable_57 : decode cX7_writeTable 57 = .ok (.aload_n 0, 1) := by decide +kernel
theorem dX7_writeTable_58 : decode cX7_writeTable 58 = .ok (.getfield 52, 3) := by decide +kernel
theorem dX7_writeTable_61 : decode cX7_writeTable 61 = .ok (.aload_n 0, 1) := by decide +kernel
theorem dX7_writeTable_62 : decode cX7_writeTable 62 = .ok (.getfield 28, 3) := by decide +kernel
theorem dX7_writeTable_65 : decode cX7_writeTable 65 = .ok (.iload_n 1, 1) := by decide +kernel
theorem dX7_writeTable_66 : decode cX7_writeTable 66 = .ok (.invokevirtual 216, 3) := by decide +kernel
theorem dX7_writeTable_69 : decode cX7_writeTable 69 = .ok (.invokevirtual 292, 3) := by decide +kernel
theorem dX7_writeTable_72 : decode cX7_writeTable 72 = .ok (.aload_n 0, 1) := by decide +kernel
theorem dX7_writeTable_73 : decode cX7_writeTable 73 = .ok (.getfield 28, 3) := by decide +kernel
theorem dX7_writeTable_76 : decode cX7_writeTable 76 = .ok (.iload_n 1, 1) := by decide +kernel
theorem dX7_writeTable_77 : decode cX7_writeTable 77 = .ok (.invokevirtual 239, 3) := by decide +kernel
theorem dX7_writeTable_80 : decode cX7_writeTable 80 = .ok (.istore_n 2, 1) := by decide +kernel
theorem dX7_writeTable_81 : decode cX7_writeTable 81 = .ok (.iload_n 2, 1) := by decide +kernel
theorem dX7_writeTable_82 : decode cX7_writeTable 82 = .ok (.ifCond .le 20, 3) := by decide +kernel
theorem dX7_writeTable_85 : decode cX7_writeTable 85 = .ok (.aload_n 0, 1) := by decide +kernel
theorem dX7_writeTable_86 : decode cX7_writeTable 86 = .ok (.getfield 52, 3) := by decide +kernel
theorem dX7_writeTable_89 : decode cX7_writeTable 89 = .ok (.bipush 43, 2) := by decide +kernel
theorem dX7_writeTable_91 : decode cX7_writeTable 91 = .ok (.invokevirtual 289, 3) := by decide +kernel
theorem dX7_writeTable_94 : decode cX7_writeTable 94 = .ok (.aload_n 0, 1) := by decide +kernel
theorem dX7_writeTable_95 : decode cX7_writeTable 95 = .ok (.getfield 52, 3) := by decide +kernel
theorem dX7_writeTable_98 : decode cX7_writeTable 98 = .ok (.iload_n 2, 1) := by decide +kernel
theorem dX7_writeTable_99 : decode cX7_writeTable 99 = .ok (.invokevirtual 292, 3) := by decide +kernel
theorem dX7_writeTable_102 : decode cX7_writeTable 102 = .ok (.iinc 1 1, 3) := by decide +kernel
theorem dX7_writeTable_105 : decode cX7_writeTable 105 = .ok (.goto (-96), 3) := by decide +kernel
theorem dX7_writeTable_108 : decode cX7_writeTable 108 = .ok (.aload_n 0, 1) := by decide +kernel
theorem dX7_writeTable_109 : decode cX7_writeTable 109 = .ok (.getfield 52, 3) := by decide +kernel
theorem dX7_writeTable_112 : decode cX7_writeTable 112 = .ok (.getfield 295, 3) := by decide +kernel
theorem dX7_writeTable_115 : decode cX7_writeTable 115 = .ok (.ireturn, 1) := by decide +kernel
theorem dX7_reportByte_0 : decode cX7_reportByte 0 = .ok (.aload_n 0, 1) := by decide +kernel
theorem dX7_reportByte_1 : decode cX7_reportByte 1 = .ok (.getfield 52, 3) := by decide +kernel
theorem dX7_reportByte_4 : decode cX7_reportByte 4 = .ok (.iload_n 1, 1) := by decide +kernel
theorem dX7_reportByte_5 : decode cX7_reportByte 5 = .ok (.invokevirtual 296, 3) := by decide +kernel
theorem dX7_reportByte_8 : decode cX7_reportByte 8 = .ok (.ireturn, 1) := by decide +kernel
theorem dX7_needKey_0 : decode cX7_needKey 0 = .ok (.iload_n 0, 1) := by decide +kernel
theorem dX7_needKey_1 : decode cX7_needKey 1 = .ok (.invokestatic 144, 3) := by decide +kernel
theorem dX7_needKey_4 : decode cX7_needKey 4 = .ok (.ifCond .ne 14, 3) := by decide +kernel
theorem dX7_needKey_7 : decode cX7_needKey 7 = .ok (.new 79, 3) := by decide +kernel
theorem dX7_needKey_10 : decode cX7_needKey 10 = .ok (.dup, 1) := by decide +kernel
theorem dX7_needKey_11 : decode cX7_needKey 11 = .ok (.ldc_w 299, 3) := by decide +kernel
theorem dX7_needKey_14 : decode cX7_needKey 14 = .ok (.invokespecial 83, 3) := by decide +kernel
theorem dX7_needKey_17 : decode cX7_needKey 17 = .ok (.athrow, 1) := by decide +kernel
theorem dX7_needKey_18 : decode cX7_needKey 18 = .ok (.return_, 1) := by decide +kernel
theorem dX7_needValue_0 : decode cX7_needValue 0 = .ok (.iload_n 0, 1) := by decide +kernel
theorem dX7_needValue_1 : decode cX7_needValue 1 = .ok (.invokestatic 301, 3) := by decide +kernel
theorem dX7_needValue_4 : decode cX7_needValue 4 = .ok (.ifCond .ne 14, 3) := by decide +kernel
theorem dX7_needValue_7 : decode cX7_needValue 7 = .ok (.new 79, 3) := by decide +kernel
theorem dX7_needValue_10 : decode cX7_needValue 10 = .ok (.dup, 1) := by decide +kernel
theorem dX7_needValue_11 : decode cX7_needValue 11 = .ok (.ldc_w 304, 3) := by decide +kernel
theorem dX7_needValue_14 : decode cX7_needValue 14 = .ok (.invokespecial 83, 3) := by decide +kernel
theorem dX7_needValue_17 : decode cX7_needValue 17 = .ok (.athrow, 1) := by decide +kernel
theorem dX7_needValue_18 : decode cX7_needValue 18 = .ok (.return_, 1) := by decide +kernel
theorem dX7_needBucket_0 : decode cX7_needBucket 0 = .ok (.aload_n 0, 1) := by decide +kernel
theorem dX7_needBucket_1 : decode cX7_needBucket 1 = .ok (.getfield 28, 3) := by decide +kernel
theorem dX7_needBucket_4 : decode cX7_needBucket 4 = .ok (.iload_n 1, 1) := by decide +kernel
theorem dX7_needBucket_5 : decode cX7_needBucket 5 = .ok (.invokevirtual 306, 3) := by decide +kernel
theorem dX7_needBucket_8 : decode cX7_needBucket 8 = .ok (.ifCond .ne 14, 3) := by decide +kernel
theorem dX7_needBucket_11 : decode cX7_needBucket 11 = .ok (.new 309, 3) := by decide +kernel
theorem dX7_needBucket_14 : decode cX7_needBucket 14 = .ok (.dup, 1) := by decide +kernel
theorem dX7_needBucket_15 : decode cX7_needBucket 15 = .ok (.ldc_w 311, 3) := by decide +kernel
theorem dX7_needBucket_18 : decode cX7_needBucket 18 = .ok (.invokespecial 313, 3) := by decide +kernel
theorem dX7_needBucket_21 : decode cX7_needBucket 21 = .ok (.athrow, 1) := by decide +kernel
theorem dX7_needBucket_22 : decode cX7_needBucket 22 = .ok (.return_, 1) := by decide +kernel
theorem dX7_isKey_0 : decode cX7_isKey 0 = .ok (.iload_n 0, 1) := by decide +kernel
theorem dX7_isKey_1 : decode cX7_isKey 1 = .ok (.ifCond .lt 14, 3) := by decide +kernel
theorem dX7_isKey_4 : decode cX7_isKey 4 = .ok (.iload_n 0, 1) := by decide +kernel
theorem dX7_isKey_5 : decode cX7_isKey 5 = .ok (.sipush 9999, 3) := by decide +kernel
theorem dX7_isKey_8 : decode cX7_isKey 8 = .ok (.if_icmp .gt 7, 3) := by decide +kernel
theorem dX7_isKey_11 : decode cX7_isKey 11 = .ok (.iconst 1, 1) := by decide +kernel
theorem dX7_isKey_12 : decode cX7_isKey 12 = .ok (.goto 4, 3) := by decide +kernel
theorem dX7_isKey_15 : decode cX7_isKey 15 = .ok (.iconst 0, 1) := by decide +kernel
theorem dX7_isKey_16 : decode cX7_isKey 16 = .ok (.ireturn, 1) := by decide +kernel
theorem dX7_isValue_0 : decode cX7_isValue 0 = .ok (.iload_n 0, 1) := by decide +kernel
theorem dX7_isValue_1 : decode cX7_isValue 1 = .ok (.ifCond .lt 14, 3) := by decide +kernel
theorem dX7_isValue_4 : decode cX7_isValue 4 = .ok (.iload_n 0, 1) := by decide +kernel
theorem dX7_isValue_5 : decode cX7_isValue 5 = .ok (.sipush 999, 3) := by decide +kernel
theorem dX7_isValue_8 : decode cX7_isValue 8 = .ok (.if_icmp .gt 7, 3) := by decide +kernel
theorem dX7_isValue_11 : decode cX7_isValue 11 = .ok (.iconst 1, 1) := by decide +kernel
theorem dX7_isValue_12 : decode cX7_isValue 12 = .ok (.goto 4, 3) := by decide +kernel
theorem dX7_isValue_15 : decode cX7_isValue 15 = .ok (.iconst 0, 1) := by decide +kernel
theorem dX7_isValue_16 : decode cX7_isValue 16 = .ok (.ireturn, 1) := by decide +kernel
theorem dX7_isStep_0 : decode cX7_isStep 0 = .ok (.iload_n 0, 1) := by decide +kernel
theorem dX7_isStep_1 : decode cX7_isStep 1 = .ok (.iconst 1, 1) := by decide +kernel
theorem dX7_isStep_2 : decode cX7_isStep 2 = .ok (.if_icmp .lt 14, 3) := by decide +kernel
theorem dX7_isStep_5 : decode cX7_isStep 5 = .ok (.iload_n 0, 1) := by decide +kernel
theorem dX7_isStep_6 : decode cX7_isStep 6 = .ok (.sipush 999, 3) := by decide +kernel
theorem dX7_isStep_9 : decode cX7_isStep 9 = .ok (.if_icmp .gt 7, 3) := by decide +kernel
theorem dX7_isStep_12 : decode cX7_isStep 12 = .ok (.iconst 1, 1) := by decide +kernel
theorem dX7_isStep_13 : decode cX7_isStep 13 = .ok (.goto 4, 3) := by decide +kernel
theorem dX7_isStep_16 : decode cX7_isStep 16 = .ok (.iconst 0, 1) := by decide +kernel
theorem dX7_isStep_17 : decode cX7_isStep 17 = .ok (.ireturn, 1) := by decide +kernel
theorem dX7_isRow_0 : decode cX7_isRow 0 = .ok (.iload_n 2, 1) := by decide +kernel
theorem dX7_isRow_1 : decode cX7_isRow 1 = .ok (.iconst 1, 1) := by decide +kernel
theorem dX7_isRow_2 : decode cX7_isRow 2 = .ok (.if_icmp .lt 26, 3) := by decide +kernel
theorem dX7_isRow_5 : decode cX7_isRow 5 = .ok (.iload_n 2, 1) := by decide +kernel
theorem dX7_isRow_6 : decode cX7_isRow 6 = .ok (.bipush 20, 2) := by decide +kernel
theorem dX7_isRow_8 : decode cX7_isRow 8 = .ok (.if_icmp .gt 20, 3) := by decide +kernel
theorem dX7_isRow_11 : decode cX7_isRow 11 = .ok (.iload_n 0, 1) := by decide +kernel
theorem dX7_isRow_12 : decode cX7_isRow 12 = .ok (.iload_n 1, 1) := by decide +kernel
theorem dX7_isRow_13 : decode cX7_isRow 13 = .ok (.iload_n 2, 1) := by decide +kernel
theorem dX7_isRow_14 : decode cX7_isRow 14 = .ok (.iconst 1, 1) := by decide +kernel
theorem dX7_isRow_15 : decode cX7_isRow 15 = .ok (.isub, 1) := by decide +kernel
theorem dX7_isRow_16 : decode cX7_isRow 16 = .ok (.imul, 1) := by decide +kernel
theorem dX7_isRow_17 : decode cX7_isRow 17 = .ok (.iadd, 1) := by decide +kernel
theorem dX7_isRow_18 : decode cX7_isRow 18 = .ok (.invokestatic 144, 3) := by decide +kernel
theorem dX7_isRow_21 : decode cX7_isRow 21 = .ok (.ifCond .eq 7, 3) := by decide +kernel
theorem dX7_isRow_24 : decode cX7_isRow 24 = .ok (.iconst 1, 1) := by decide +kernel
theorem dX7_isRow_25 : decode cX7_isRow 25 = .ok (.goto 4, 3) := by decide +kernel
theorem dX7_isRow_28 : decode cX7_isRow 28 = .ok (.iconst 0, 1) := by decide +kernel
theorem dX7_isRow_29 : decode cX7_isRow 29 = .ok (.ireturn, 1) := by decide +kernel
theorem dX7_isNear_0 : decode cX7_isNear 0 = .ok (.iload_n 0, 1) := by decide +kernel
theorem dX7_isNear_1 : decode cX7_isNear 1 = .ok (.iconst 2, 1) := by decide +kernel
theorem dX7_isNear_2 : decode cX7_isNear 2 = .ok (.if_icmp .lt 13, 3) := by decide +kernel
theorem dX7_isNear_5 : decode cX7_isNear 5 = .ok (.iload_n 0, 1) := by decide +kernel
theorem dX7_isNear_6 : decode cX7_isNear 6 = .ok (.bipush 6, 2) := by decide +kernel
theorem dX7_isNear_8 : decode cX7_isNear 8 = .ok (.if_icmp .gt 7, 3) := by decide +kernel
theorem dX7_isNear_11 : decode cX7_isNear 11 = .ok (.iconst 1, 1) := by decide +kernel
theorem dX7_isNear_12 : decode cX7_isNear 12 = .ok (.goto 4, 3) := by decide +kernel
theorem dX7_isNear_15 : decode cX7_isNear 15 = .ok (.iconst 0, 1) := by decide +kernel
theorem dX7_isNear_16 : decode cX7_isNear 16 = .ok (.ireturn, 1) := by decide +kernel
theorem dX7_isTimes_0 : decode cX7_isTimes 0 = .ok (.iload_n 0, 1) := by decide +kernel
theorem dX7_isTimes_1 : decode cX7_isTimes 1 = .ok (.iconst 1, 1) := by decide +kernel
theorem dX7_isTimes_2 : decode cX7_isTimes 2 = .ok (.if_icmp .lt 13, 3) := by decide +kernel
theorem dX7_isTimes_5 : decode cX7_isTimes 5 = .ok (.iload_n 0, 1) := by decide +kernel
theorem dX7_isTimes_6 : decode cX7_isTimes 6 = .ok (.bipush 99, 2) := by decide +kernel
theorem dX7_isTimes_8 : decode cX7_isTimes 8 = .ok (.if_icmp .gt 7, 3) := by decide +kernel
theorem dX7_isTimes_11 : decode cX7_isTimes 11 = .ok (.iconst 1, 1) := by decide +kernel
theorem dX7_isTimes_12 : decode cX7_isTimes 12 = .ok (.goto 4, 3) := by decide +kernel
theorem dX7_isTimes_15 : decode cX7_isTimes 15 = .ok (.iconst 0, 1) := by decide +kernel
theorem dX7_isTimes_16 : decode cX7_isTimes 16 = .ok (.ireturn, 1) := by decide +kernel
theorem dX7_isBucketNumber_0 : decode cX7_isBucketNumber 0 = .ok (.iload_n 0, 1) := by decide +kernel
theorem dX7_isBucketNumber_1 : decode cX7_isBucketNumber 1 = .ok (.bipush 8, 2) := by decide +kernel
theorem dX7_isBucketNumber_3 : decode cX7_isBucketNumber 3 = .ok (.if_icmp .eq 21, 3) := by decide +kernel
theorem dX7_isBucketNumber_6 : decode cX7_isBucketNumber 6 = .ok (.iload_n 0, 1) := by decide +kernel
theorem dX7_isBucketNumber_7 : decode cX7_isBucketNumber 7 = .ok (.bipush 16, 2) := by decide +kernel
theorem dX7_isBucketNumber_9 : decode cX7_isBucketNumber 9 = .ok (.if_icmp .eq 15, 3) := by decide +kernel
theorem dX7_isBucketNumber_12 : decode cX7_isBucketNumber 12 = .ok (.iload_n 0, 1) := by decide +kernel
theorem dX7_isBucketNumber_13 : decode cX7_isBucketNumber 13 = .ok (.bipush 32, 2) := by decide +kernel
theorem dX7_isBucketNumber_15 : decode cX7_isBucketNumber 15 = .ok (.if_icmp .eq 9, 3) := by decide +kernel
theorem dX7_isBucketNumber_18 : decode cX7_isBucketNumber 18 = .ok (.iload_n 0, 1) := by decide +kernel
theorem dX7_isBucketNumber_19 : decode cX7_isBucketNumber 19 = .ok (.bipush 64, 2) := by decide +kernel
theorem dX7_isBucketNumber_21 : decode cX7_isBucketNumber 21 = .ok (.if_icmp .ne 7, 3) := by decide +kernel
theorem dX7_isBucketNumber_24 : decode cX7_isBucketNumber 24 = .ok (.iconst 1, 1) := by decide +kernel
theorem dX7_isBucketNumber_25 : decode cX7_isBucketNumber 25 = .ok (.goto 4, 3) := by decide +kernel
theorem dX7_isBucketNumber_28 : decode cX7_isBucketNumber 28 = .ok (.iconst 0, 1) := by decide +kernel
theorem dX7_isBucketNumber_29 : decode cX7_isBucketNumber 29 = .ok (.ireturn, 1) := by decide +kernel
theorem dX7_tryToInsert_0 : decode cX7_tryToInsert 0 = .ok (.aload_n 0, 1) := by decide +kernel
theorem dX7_tryToInsert_1 : decode cX7_tryToInsert 1 = .ok (.getfield 28, 3) := by decide +kernel
theorem dX7_tryToInsert_4 : decode cX7_tryToInsert 4 = .ok (.iload_n 1, 1) := by decide +kernel
theorem dX7_tryToInsert_5 : decode cX7_tryToInsert 5 = .ok (.invokevirtual 124, 3) := by decide +kernel
theorem dX7_tryToInsert_8 : decode cX7_tryToInsert 8 = .ok (.iconst (-1), 1) := by decide +kernel
theorem dX7_tryToInsert_9 : decode cX7_tryToInsert 9 = .ok (.if_icmp .eq 5, 3) := by decide +kernel
theorem dX7_tryToInsert_12 : decode cX7_tryToInsert 12 = .ok (.iconst (-1), 1) := by decide +kernel
theorem dX7_tryToInsert_13 : decode cX7_tryToInsert 13 = .ok (.ireturn, 1) := by decide +kernel
theorem dX7_tryToInsert_14 : decode cX7_tryToInsert 14 = .ok (.aload_n 0, 1) := by decide +kernel
theorem dX7_tryToInsert_15 : decode cX7_tryToInsert 15 = .ok (.getfield 32, 3) := by decide +kernel
theorem dX7_tryToInsert_18 : decode cX7_tryToInsert 18 = .ok (.aload_n 0, 1) := by decide +kernel
theorem dX7_tryToInsert_19 : decode cX7_tryToInsert 19 = .ok (.getfield 28, 3) := by decide +kernel
theorem dX7_tryToInsert_22 : decode cX7_tryToInsert 22 = .ok (.invokevirtual 109, 3) := by decide +kernel
theorem dX7_tryToInsert_25 : decode cX7_tryToInsert 25 = .ok (.aload_n 0, 1) := by decide +kernel
theorem dX7_tryToInsert_26 : decode cX7_tryToInsert 26 = .ok (.getfield 32, 3) := by decide +kernel
theorem dX7_tryToInsert_29 : decode cX7_tryToInsert 29 = .ok (.iload_n 1, 1) := by decide +kernel
theorem dX7_tryToInsert_30 : decode cX7_tryToInsert 30 = .ok (.iconst 0, 1) := by decide +kernel
theorem dX7_tryToInsert_31 : decode cX7_tryToInsert 31 = .ok (.invokevirtual 60, 3) := by decide +kernel
theorem dX7_tryToInsert_34 : decode cX7_tryToInsert 34 = .ok (.ireturn, 1) := by decide +kernel
theorem dX8_init_0 : decode cX8_init 0 = .ok (.aload_n 0, 1) := by decide +kernel
theorem dX8_init_1 : decode cX8_init 1 = .ok (.invokespecial 1, 3) := by decide +kernel
theorem dX8_init_4 : decode cX8_init 4 = .ok (.aload_n 0, 1) := by decide +kernel
theorem dX8_init_5 : decode cX8_init 5 = .ok (.sipush 137, 3) := by decide +kernel
theorem dX8_init_8 : decode cX8_init 8 = .ok (.newarray .int, 2) := by decide +kernel
theorem dX8_init_10 : decode cX8_init 10 = .ok (.putfield 7, 3) := by decide +kernel
theorem dX8_init_13 : decode cX8_init 13 = .ok (.aload_n 0, 1) := by decide +kernel
theorem dX8_init_14 : decode cX8_init 14 = .ok (.sipush 137, 3) := by decide +kernel
theorem dX8_init_17 : decode cX8_init 17 = .ok (.newarray .int, 2) := by decide +kernel
theorem dX8_init_19 : decode cX8_init 19 = .ok (.putfield 13, 3) := by decide +kernel
theorem dX8_init_22 : decode cX8_init 22 = .ok (.aload_n 0, 1) := by decide +kernel
theorem dX8_init_23 : decode cX8_init 23 = .ok (.sipush 137, 3) := by decide +kernel
theorem dX8_init_26 : decode cX8_init 26 = .ok (.newarray .int, 2) := by decide +kernel
theorem dX8_init_28 : decode cX8_init 28 = .ok (.putfield 16, 3) := by decide +kernel
theorem dX8_init_31 : decode cX8_init 31 = .ok (.aload_n 0, 1) := by decide +kernel
theorem dX8_init_32 : decode cX8_init 32 = .ok (.sipush 137, 3) := by decide +kernel
theorem dX8_init_35 : decode cX8_init 35 = .ok (.newarray .int, 2) := by decide +kernel
theorem dX8_init_37 : decode cX8_init 37 = .ok (.putfield 19, 3) := by decide +kernel
theorem dX8_init_40 : decode cX8_init 40 = .ok (.aload_n 0, 1) := by decide +kernel
theorem dX8_init_41 : decode cX8_init 41 = .ok (.sipush 137, 3) := by decide +kernel
theorem dX8_init_44 : decode cX8_init 44 = .ok (.newarray .int, 2) := by decide +kernel
theorem dX8_init_46 : decode cX8_init 46 = .ok (.putfield 22, 3) := by decide +kernel
theorem dX8_init_49 : decode cX8_init 49 = .ok (.aload_n 0, 1) := by decide +kernel
theorem dX8_init_50 : decode cX8_init 50 = .ok (.sipush 1096, 3) := by decide +kernel
theorem dX8_init_53 : decode cX8_init 53 = .ok (.newarray .int, 2) := by decide +kernel
theorem dX8_init_55 : decode cX8_init 55 = .ok (.putfield 25, 3) := by decide +kernel
theorem dX8_init_58 : decode cX8_init 58 = .ok (.aload_n 0, 1) := by decide +kernel
theorem dX8_init_59 : decode cX8_init 59 = .ok (.sipush 137, 3) := by decide +kernel
theorem dX8_init_62 : decode cX8_init 62 = .ok (.newarray .int, 2) := by decide +kernel
theorem dX8_init_64 : decode cX8_init 64 = .ok (.putfield 28, 3) := by decide +kernel
theorem dX8_init_67 : decode cX8_init 67 = .ok (.aload_n 0, 1) := by decide +kernel
theorem dX8_init_68 : decode cX8_init 68 = .ok (.bipush 64, 2) := by decide +kernel
theorem dX8_init_70 : decode cX8_init 70 = .ok (.newarray .int, 2) := by decide +kernel
theorem dX8_init_72 : decode cX8_init 72 = .ok (.putfield 31, 3) := by decide +kernel
theorem dX8_init_75 : decode cX8_init 75 = .ok (.aload_n 0, 1) := by decide +kernel
theorem dX8_init_76 : decode cX8_init 76 = .ok (.bipush 64, 2) := by decide +kernel
theorem dX8_init_78 : decode cX8_init 78 = .ok (.newarray .int, 2) := by decide +kernel
theorem dX8_init_80 : decode cX8_init 80 = .ok (.putfield 34, 3) := by decide +kernel
theorem dX8_init_83 : decode cX8_init 83 = .ok (.aload_n 0, 1) := by decide +kernel
theorem dX8_init_84 : decode cX8_init 84 = .ok (.sipush 600, 3) := by decide +kernel
theorem dX8_init_87 : decode cX8_init 87 = .ok (.newarray .int, 2) := by decide +kernel
theorem dX8_init_89 : decode cX8_init 89 = .ok (.putfield 37, 3) := by decide +kernel
theorem dX8_init_92 : decode cX8_init 92 = .ok (.aload_n 0, 1) := by decide +kernel
theorem dX8_init_93 : decode cX8_init 93 = .ok (.sipush 600, 3) := by decide +kernel
theorem dX8_init_96 : decode cX8_init 96 = .ok (.newarray .int, 2) := by decide +kernel
theorem dX8_init_98 : decode cX8_init 98 = .ok (.putfield 40, 3) := by decide +kernel
theorem dX8_init_101 : decode cX8_init 101 = .ok (.aload_n 0, 1) := by decide +kernel
theorem dX8_init_102 : decode cX8_init 102 = .ok (.iconst (-1), 1) := by decide +kernel
theorem dX8_init_103 : decode cX8_init 103 = .ok (.putfield 43, 3) := by decide +kernel
theorem dX8_init_106 : decode cX8_init 106 = .ok (.aload_n 0, 1) := by decide +kernel
theorem dX8_init_107 : decode cX8_init 107 = .ok (.sipush 520, 3) := by decide +kernel
theorem dX8_init_110 : decode cX8_init 110 = .ok (.newarray .char, 2) := by decide +kernel
theorem dX8_init_112 : decode cX8_init 112 = .ok (.putfield 47, 3) := by decide +kernel
theorem dX8_init_115 : decode cX8_init 115 = .ok (.aload_n 0, 1) := by decide +kernel
theorem dX8_init_116 : decode cX8_init 116 = .ok (.iconst 3, 1) := by decide +kernel
theorem dX8_init_117 : decode cX8_init 117 = .ok (.newarray .int, 2) := by decide +kernel
theorem dX8_init_119 : decode cX8_init 119 = .ok (.putfield 51, 3) := by decide +kernel
theorem dX8_init_122 : decode cX8_init 122 = .ok (.aload_n 0, 1) := by decide +kernel
theorem dX8_init_123 : decode cX8_init 123 = .ok (.ldc 54, 2) := by decide +kernel
theorem dX8_init_125 : decode cX8_init 125 = .ok (.invokevirtual 56, 3) := by decide +kernel
theorem dX8_init_128 : decode cX8_init 128 = .ok (.aload_n 0, 1) := by decide +kernel
theorem dX8_init_129 : decode cX8_init 129 = .ok (.invokevirtual 60, 3) := by decide +kernel
theorem dX8_init_132 : decode cX8_init 132 = .ok (.pop, 1) := by decide +kernel
theorem dX8_init_133 : decode cX8_init 133 = .ok (.aload_n 0, 1) := by decide +kernel
theorem dX8_init_134 : decode cX8_init 134 = .ok (.iconst 0, 1) := by decide +kernel
theorem dX8_init_135 : decode cX8_init 135 = .ok (.putfield 64, 3) := by decide +kernel
theorem dX8_init_138 : decode cX8_init 138 = .ok (.return_, 1) := by decide +kernel
theorem dX8_thrown_0 : decode cX8_thrown 0 = .ok (.aload_n 0, 1) := by decide +kernel
theorem dX8_thrown_1 : decode cX8_thrown 1 = .ok (.getfield 64, 3) := by decide +kernel
theorem dX8_thrown_4 : decode cX8_thrown 4 = .ok (.ireturn, 1) := by decide +kernel
theorem dX8_in_0 : decode cX8_in 0 = .ok (.iload_n 0, 1) := by decide +kernel
theorem dX8_in_1 : decode cX8_in 1 = .ok (.iload_n 1, 1) := by decide +kernel
theorem dX8_in_2 : decode cX8_in 2 = .ok (.if_icmp .lt 12, 3) := by decide +kernel
theorem dX8_in_5 : decode cX8_in 5 = .ok (.iload_n 0, 1) := by decide +kernel
theorem dX8_in_6 : decode cX8_in 6 = .ok (.iload_n 2, 1) := by decide +kernel
theorem dX8_in_7 : decode cX8_in 7 = .ok (.if_icmp .gt 7, 3) := by decide +kernel
theorem dX8_in_10 : decode cX8_in 10 = .ok (.iconst 1, 1) := by decide +kernel
theorem dX8_in_11 : decode cX8_in 11 = .ok (.goto 4, 3) := by decide +kernel
theorem dX8_in_14 : decode cX8_in 14 = .ok (.iconst 0, 1) := by decide +kernel
theorem dX8_in_15 : decode cX8_in 15 = .ok (.ireturn, 1) := by decide +kernel
theorem dX8_throwsOne_0 : decode cX8_throwsOne 0 = .ok (.aload_n 0, 1) := by decide +kernel
theorem dX8_throwsOne_1 : decode cX8_throwsOne 1 = .ok (.iload_n 1, 1) := by decide +kernel
theorem dX8_throwsOne_2 : decode cX8_throwsOne 2 = .ok (.ifCond .eq 7, 3) := by decide +kernel
theorem dX8_throwsOne_5 : decode cX8_throwsOne 5 = .ok (.iconst 1, 1) := by decide +kernel
theorem dX8_throwsOne_6 : decode cX8_throwsOne 6 = .ok (.goto 4, 3) := by decide +kernel
theorem dX8_throwsOne_9 : decode cX8_throwsOne 9 = .ok (.iconst 0, 1) := by decide +kernel
theorem dX8_throwsOne_10 : decode cX8_throwsOne 10 = .ok (.putfield 64, 3) := by decide +kernel
theorem dX8_throwsOne_13 : decode cX8_throwsOne 13 = .ok (.iload_n 1, 1) := by decide +kernel
theorem dX8_throwsOne_14 : decode cX8_throwsOne 14 = .ok (.ireturn, 1) := by decide +kernel
theorem dX8_throwsOne__0 : decode cX8_throwsOne_ 0 = .ok (.aload_n 0, 1) := by decide +kernel
theorem dX8_throwsOne__1 : decode cX8_throwsOne_ 1 = .ok (.iload_n 1, 1) := by decide +kernel
theorem dX8_throwsOne__2 : decode cX8_throwsOne_ 2 = .ok (.ifCond .eq 7, 3) := by decide +kernel
theorem dX8_throwsOne__5 : decode cX8_throwsOne_ 5 = .ok (.iconst 1, 1) := by decide +kernel
theorem dX8_throwsOne__6 : decode cX8_throwsOne_ 6 = .ok (.goto 12, 3) := by decide +kernel
theorem dX8_throwsOne__9 : decode cX8_throwsOne_ 9 = .ok (.iload_n 2, 1) := by decide +kernel
theorem dX8_throwsOne__10 : decode cX8_throwsOne_ 10 = .ok (.ifCond .eq 7, 3) := by decide +kernel
theorem dX8_throwsOne__13 : decode cX8_throwsOne_ 13 = .ok (.iconst 2, 1) := by decide +kernel
theorem dX8_throwsOne__14 : decode cX8_throwsOne_ 14 = .ok (.goto 4, 3) := by decide +kernel
theorem dX8_throwsOne__17 : decode cX8_throwsOne_ 17 = .ok (.iconst 0, 1) := by decide +kernel
theorem dX8_throwsOne__18 : decode cX8_throwsOne_ 18 = .ok (.putfield 64, 3) := by decide +kernel
theorem dX8_throwsOne__21 : decode cX8_throwsOne_ 21 = .ok (.iload_n 1, 1) := by decide +kernel
theorem dX8_throwsOne__22 : decode cX8_throwsOne_ 22 = .ok (.ifCond .ne 7, 3) := by decide +kernel
theorem dX8_throwsOne__25 : decode cX8_throwsOne_ 25 = .ok (.iload_n 2, 1) := by decide +kernel
theorem dX8_throwsOne__26 : decode cX8_throwsOne_ 26 = .ok (.ifCond .eq 7, 3) := by decide +kernel
theorem dX8_throwsOne__29 : decode cX8_throwsOne_ 29 = .ok (.iconst 1, 1) := by decide +kernel
theorem dX8_throwsOne__30 : decode cX8_throwsOne_ 30 = .ok (.goto 4, 3) := by decide +kernel
theorem dX8_throwsOne__33 : decode cX8_throwsOne_ 33 = .ok (.iconst 0, 1) := by decide +kernel
theorem dX8_throwsOne__34 : decode cX8_throwsOne_ 34 = .ok (.ireturn, 1) := by decide +kernel
theorem dX8_isKey_0 : decode cX8_isKey 0 = .ok (.iload_n 0, 1) := by decide +kernel
theorem dX8_isKey_1 : decode cX8_isKey 1 = .ok (.iconst 0, 1) := by decide +kernel
theorem dX8_isKey_2 : decode cX8_isKey 2 = .ok (.sipush 9999, 3) := by decide +kernel
theorem dX8_isKey_5 : decode cX8_isKey 5 = .ok (.invokestatic 67, 3) := by decide +kernel
theorem dX8_isKey_8 : decode cX8_isKey 8 = .ok (.ireturn, 1) := by decide +kernel
theorem dX8_isSize_0 : decode cX8_isSize 0 = .ok (.iload_n 0, 1) := by decide +kernel
theorem dX8_isSize_1 : decode cX8_isSize 1 = .ok (.bipush 8, 2) := by decide +kernel
theorem dX8_isSize_3 : decode cX8_isSize 3 = .ok (.if_icmp .eq 21, 3) := by decide +kernel
theorem dX8_isSize_6 : decode cX8_isSize 6 = .ok (.iload_n 0, 1) := by decide +kernel
theorem dX8_isSize_7 : decode cX8_isSize 7 = .ok (.bipush 16, 2) := by decide +kernel
theorem dX8_isSize_9 : decode cX8_isSize 9 = .ok (.if_icmp .eq 15, 3) := by decide +kernel
theorem dX8_isSize_12 : decode cX8_isSize 12 = .ok (.iload_n 0, 1) := by decide +kernel
theorem dX8_isSize_13 : decode cX8_isSize 13 = .ok (.bipush 32, 2) := by decide +kernel
theorem dX8_isSize_15 : decode cX8_isSize 15 = .ok (.if_icmp .eq 9, 3) := by decide +kernel
theorem dX8_isSize_18 : decode cX8_isSize 18 = .ok (.iload_n 0, 1) := by decide +kernel
theorem dX8_isSize_19 : decode cX8_isSize 19 = .ok (.bipush 64, 2) := by decide +kernel
theorem dX8_isSize_21 : decode cX8_isSize 21 = .ok (.if_icmp .ne 7, 3) := by decide +kernel
theorem dX8_isSize_24 : decode cX8_isSize 24 = .ok (.iconst 1, 1) := by decide +kernel
theorem dX8_isSize_25 : decode cX8_isSize 25 = .ok (.goto 4, 3) := by decide +kernel
theorem dX8_isSize_28 : decode cX8_isSize 28 = .ok (.iconst 0, 1) := by decide +kernel
theorem dX8_isSize_29 : decode cX8_isSize 29 = .ok (.ireturn, 1) := by decide +kernel
theorem dX8_isBucket_0 : decode cX8_isBucket 0 = .ok (.iload_n 1, 1) := by decide +kernel
theorem dX8_isBucket_1 : decode cX8_isBucket 1 = .ok (.iconst 0, 1) := by decide +kernel
theorem dX8_isBucket_2 : decode cX8_isBucket 2 = .ok (.aload_n 0, 1) := by decide +kernel
theorem dX8_isBucket_3 : decode cX8_isBucket 3 = .ok (.getfield 7, 3) := by decide +kernel
theorem dX8_isBucket_6 : decode cX8_isBucket 6 = .ok (.iconst 0, 1) := by decide +kernel
theorem dX8_isBucket_7 : decode cX8_isBucket 7 = .ok (.iaload, 1) := by decide +kernel
theorem dX8_isBucket_8 : decode cX8_isBucket 8 = .ok (.iconst 1, 1) := by decide +kernel
theorem dX8_isBucket_9 : decode cX8_isBucket 9 = .ok (.isub, 1) := by decide +kernel
theorem dX8_isBucket_10 : decode cX8_isBucket 10 = .ok (.invokestatic 67, 3) := by decide +kernel
theorem dX8_isBucket_13 : decode cX8_isBucket 13 = .ok (.ireturn, 1) := by decide +kernel
theorem dX8_key_0 : decode cX8_key 0 = .ok (.aload_n 0, 1) := by decide +kernel
theorem dX8_key_1 : decode cX8_key 1 = .ok (.getfield 7, 3) := by decide +kernel
theorem dX8_key_4 : decode cX8_key 4 = .ok (.bipush 9, 2) := by decide +kernel
theorem dX8_key_6 : decode cX8_key 6 = .ok (.iload_n 1, 1) := by decide +kernel
theorem dX8_key_7 : decode cX8_key 7 = .ok (.iadd, 1) := by decide +kernel
theorem dX8_key_8 : decode cX8_key 8 = .ok (.iaload, 1) := by decide +kernel
theorem dX8_key_9 : decode cX8_key 9 = .ok (.iconst 1, 1) := by decide +kernel
theorem dX8_key_10 : decode cX8_key 10 = .ok (.isub, 1) := by decide +kernel
theorem dX8_key_11 : decode cX8_key 11 = .ok (.ireturn, 1) := by decide +kernel
theorem dX8_isFree_0 : decode cX8_isFree 0 = .ok (.aload_n 0, 1) := by decide +kernel
theorem dX8_isFree_1 : decode cX8_isFree 1 = .ok (.getfield 7, 3) := by decide +kernel
theorem dX8_isFree_4 : decode cX8_isFree 4 = .ok (.bipush 9, 2) := by decide +kernel
theorem dX8_isFree_6 : decode cX8_isFree 6 = .ok (.iload_n 1, 1) := by decide +kernel
theorem dX8_isFree_7 : decode cX8_isFree 7 = .ok (.iadd, 1) := by decide +kernel
theorem dX8_isFree_8 : decode cX8_isFree 8 = .ok (.iaload, 1) := by decide +kernel
theorem dX8_isFree_9 : decode cX8_isFree 9 = .ok (.ifCond .ne 7, 3) := by decide +kernel
theorem dX8_isFree_12 : decode cX8_isFree 12 = .ok (.iconst 1, 1) := by decide +kernel
theorem dX8_isFree_13 : decode cX8_isFree 13 = .ok (.goto 4, 3) := by decide +kernel
theorem dX8_isFree_16 : decode cX8_isFree 16 = .ok (.iconst 0, 1) := by decide +kernel
theorem dX8_isFree_17 : decode cX8_isFree 17 = .ok (.ireturn, 1) := by decide +kernel
theorem dX8_behind_0 : decode cX8_behind 0 = .ok (.iload_n 1, 1) := by decide +kernel
theorem dX8_behind_1 : decode cX8_behind 1 = .ok (.iload_n 2, 1) := by decide +kernel
theorem dX8_behind_2 : decode cX8_behind 2 = .ok (.iadd, 1) := by decide +kernel
theorem dX8_behind_3 : decode cX8_behind 3 = .ok (.aload_n 0, 1) := by decide +kernel
theorem dX8_behind_4 : decode cX8_behind 4 = .ok (.getfield 7, 3) := by decide +kernel
theorem dX8_behind_7 : decode cX8_behind 7 = .ok (.iconst 0, 1) := by decide +kernel
theorem dX8_behind_8 : decode cX8_behind 8 = .ok (.iaload, 1) := by decide +kernel
theorem dX8_behind_9 : decode cX8_behind 9 = .ok (.iadd, 1) := by decide +kernel
theorem dX8_behind_10 : decode cX8_behind 10 = .ok (.aload_n 0, 1) := by decide +kernel
theorem dX8_behind_11 : decode cX8_behind 11 = .ok (.getfield 7, 3) := by decide +kernel
theorem dX8_behind_14 : decode cX8_behind 14 = .ok (.iconst 0, 1) := by decide +kernel
theorem dX8_behind_15 : decode cX8_behind 15 = .ok (.iaload, 1) := by decide +kernel
theorem dX8_behind_16 : decode cX8_behind 16 = .ok (.irem, 1) := by decide +kernel
theorem dX8_behind_17 : decode cX8_behind 17 = .ok (.ireturn, 1) := by decide +kernel
theorem dX8_distance_0 : decode cX8_distance 0 = .ok (.iload_n 2, 1) := by decide +kernel
theorem dX8_distance_1 : decode cX8_distance 1 = .ok (.iload_n 1, 1) := by decide +kernel
theorem dX8_distance_2 : decode cX8_distance 2 = .ok (.isub, 1) := by decide +kernel
theorem dX8_distance_3 : decode cX8_distance 3 = .ok (.aload_n 0, 1) := by decide +kernel
theorem dX8_distance_4 : decode cX8_distance 4 = .ok (.getfield 7, 3) := by decide +kernel
theorem dX8_distance_7 : decode cX8_distance 7 = .ok (.iconst 0, 1) := by decide +kernel
theorem dX8_distance_8 : decode cX8_distance 8 = .ok (.iaload, 1) := by decide +kernel
theorem dX8_distance_9 : decode cX8_distance 9 = .ok (.iadd, 1) := by decide +kernel
theorem dX8_distance_10 : decode cX8_distance 10 = .ok (.aload_n 0, 1) := by decide +kernel
theorem dX8_distance_11 : decode cX8_distance 11 = .ok (.getfield 7, 3) := by decide +kernel
theorem dX8_distance_14 : decode cX8_distance 14 = .ok (.iconst 0, 1) := by decide +kernel
theorem dX8_distance_15 : decode cX8_distance 15 = .ok (.iaload, 1) := by decide +kernel
theorem dX8_distance_16 : decode cX8_distance 16 = .ok (.irem, 1) := by decide +kernel
theorem dX8_distance_17 : decode cX8_distance 17 = .ok (.ireturn, 1) := by decide +kernel
theorem dX8_home_0 : decode cX8_home 0 = .ok (.iload_n 1, 1) := by decide +kernel
theorem dX8_home_1 : decode cX8_home 1 = .ok (.aload_n 0, 1) := by decide +kernel
theorem dX8_home_2 : decode cX8_home 2 = .ok (.getfield 7, 3) := by decide +kernel
theorem dX8_home_5 : decode cX8_home 5 = .ok (.iconst 2, 1) := by decide +kernel
theorem dX8_home_6 : decode cX8_home 6 = .ok (.iaload, 1) := by decide +kernel
theorem dX8_home_7 : decode cX8_home 7 = .ok (.imul, 1) := by decide +kernel
theorem dX8_home_8 : decode cX8_home 8 = .ok (.sipush 997, 3) := by decide +kernel
theorem dX8_home_11 : decode cX8_home 11 = .ok (.irem, 1) := by decide +kernel
theorem dX8_home_12 : decode cX8_home 12 = .ok (.aload_n 0, 1) := by decide +kernel
theorem dX8_home_13 : decode cX8_home 13 = .ok (.getfield 7, 3) := by decide +kernel
theorem dX8_home_16 : decode cX8_home 16 = .ok (.iconst 0, 1) := by decide +kernel
theorem dX8_home_17 : decode cX8_home 17 = .ok (.iaload, 1) := by decide +kernel
theorem dX8_home_18 : decode cX8_home 18 = .ok (.irem, 1) := by decide +kernel
theorem dX8_home_19 : decode cX8_home 19 = .ok (.ireturn, 1) := by decide +kernel
theorem dX8_off_0 : decode cX8_off 0 = .ok (.aload_n 0, 1) := by decide +kernel
theorem dX8_off_1 : decode cX8_off 1 = .ok (.aload_n 0, 1) := by decide +kernel
theorem dX8_off_2 : decode cX8_off 2 = .ok (.aload_n 0, 1) := by decide +kernel
theorem dX8_off_3 : decode cX8_off 3 = .ok (.iload_n 1, 1) := by decide +kernel
theorem dX8_off_4 : decode cX8_off 4 = .ok (.invokevirtual 71, 3) := by decide +kernel
theorem dX8_off_7 : decode cX8_off 7 = .ok (.invokevirtual 75, 3) := by decide +kernel
theorem dX8_off_10 : decode cX8_off 10 = .ok (.iload_n 1, 1) := by decide +kernel
theorem dX8_off_11 : decode cX8_off 11 = .ok (.invokevirtual 78, 3) := by decide +kernel
theorem dX8_off_14 : decode cX8_off 14 = .ok (.ireturn, 1) := by decide +kernel
theorem dX8_isOf_0 : decode cX8_isOf 0 = .ok (.aload_n 0, 1) := by decide +kernel
theorem dX8_isOf_1 : decode cX8_isOf 1 = .ok (.iload_n 1, 1) := by decide +kernel
theorem dX8_isOf_2 : decode cX8_isOf 2 = .ok (.invokevirtual 82, 3) := by decide +kernel
theorem dX8_isOf_5 : decode cX8_isOf 5 = .ok (.ifCond .ne 20, 3) := by decide +kernel
theorem dX8_isOf_8 : decode cX8_isOf 8 = .ok (.aload_n 0, 1) := by decide +kernel
theorem dX8_isOf_9 : decode cX8_isOf 9 = .ok (.aload_n 0, 1) := by decide +kernel
theorem dX8_isOf_10 : decode cX8_isOf 10 = .ok (.iload_n 1, 1) := by decide +kernel
theorem dX8_isOf_11 : decode cX8_isOf 11 = .ok (.invokevirtual 71, 3) := by decide +kernel
theorem dX8_isOf_14 : decode cX8_isOf 14 = .ok (.invokevirtual 75, 3) := by decide +kernel
theorem dX8_isOf_17 : decode cX8_isOf 17 = .ok (.iload_n 2, 1) := by decide +kernel
theorem dX8_isOf_18 : decode cX8_isOf 18 = .ok (.if_icmp .ne 7, 3) := by decide +kernel
theorem dX8_isOf_21 : decode cX8_isOf 21 = .ok (.iconst 1, 1) := by decide +kernel
theorem dX8_isOf_22 : decode cX8_isOf 22 = .ok (.goto 4, 3) := by decide +kernel
theorem dX8_isOf_25 : decode cX8_isOf 25 = .ok (.iconst 0, 1) := by decide +kernel
theorem dX8_isOf_26 : decode cX8_isOf 26 = .ok (.ireturn, 1) := by decide +kernel
theorem dX8_bucketWith_0 : decode cX8_bucketWith 0 = .ok (.iconst 0, 1) := by decide +kernel
theorem dX8_bucketWith_1 : decode cX8_bucketWith 1 = .ok (.istore_n 2, 1) := by decide +kernel
theorem dX8_bucketWith_2 : decode cX8_bucketWith 2 = .ok (.iload_n 2, 1) := by decide +kernel
theorem dX8_bucketWith_3 : decode cX8_bucketWith 3 = .ok (.aload_n 0, 1) := by decide +kernel
theorem dX8_bucketWith_4 : decode cX8_bucketWith 4 = .ok (.getfield 7, 3) := by decide +kernel
theorem dX8_bucketWith_7 : decode cX8_bucketWith 7 = .ok (.iconst 0, 1) := by decide +kernel
theorem dX8_bucketWith_8 : decode cX8_bucketWith 8 = .ok (.iaload, 1) := by decide +kernel
theorem dX8_bucketWith_9 : decode cX8_bucketWith 9 = .ok (.if_icmp .ge 20, 3) := by decide +kernel
theorem dX8_bucketWith_12 : decode cX8_bucketWith 12 = .ok (.aload_n 0, 1) := by decide +kernel
theorem dX8_bucketWith_13 : decode cX8_bucketWith 13 = .ok (.iload_n 2, 1) := by decide +kernel
theorem dX8_bucketWith_14 : decode cX8_bucketWith 14 = .ok (.invokevirtual 71, 3) := by decide +kernel
theorem dX8_bucketWith_17 : decode cX8_bucketWith 17 = .ok (.iload_n 1, 1) := by decide +kernel
theorem dX8_bucketWith_18 : decode cX8_bucketWith 18 = .ok (.if_icmp .ne 5, 3) := by decide +kernel
theorem dX8_bucketWith_21 : decode cX8_bucketWith 21 = .ok (.iload_n 2, 1) := by decide +kernel
theorem dX8_bucketWith_22 : decode cX8_bucketWith 22 = .ok (.ireturn, 1) := by decide +kernel
theorem dX8_bucketWith_23 : decode cX8_bucketWith 23 = .ok (.iinc 2 1, 3) := by decide +kernel
theorem dX8_bucketWith_26 : decode cX8_bucketWith 26 = .ok (.goto (-24), 3) := by decide +kernel
theorem dX8_bucketWith_29 : decode cX8_bucketWith 29 = .ok (.iconst (-1), 1) := by decide +kernel
theorem dX8_bucketWith_30 : decode cX8_bucketWith 30 = .ok (.ireturn, 1) := by decide +kernel
theorem dX8_entries_0 : decode cX8_entries 0 = .ok (.iconst 0, 1) := by decide +kernel
theorem dX8_entries_1 : decode cX8_entries 1 = .ok (.istore_n 1, 1) := by decide +kernel
theorem dX8_entries_2 : decode cX8_entries 2 = .ok (.iconst 0, 1) := by decide +kernel
theorem dX8_entries_3 : decode cX8_entries 3 = .ok (.istore_n 2, 1) := by decide +kernel
theorem dX8_entries_4 : decode cX8_entries 4 = .ok (.iload_n 2, 1) := by decide +kernel
theorem dX8_entries_5 : decode cX8_entries 5 = .ok (.aload_n 0, 1) := by decide +kernel
theorem dX8_entries_6 : decode cX8_entries 6 = .ok (.getfield 7, 3) := by decide +kernel
theorem dX8_entries_9 : decode cX8_entries 9 = .ok (.iconst 0, 1) := by decide +kernel
theorem dX8_entries_10 : decode cX8_entries 10 = .ok (.iaload, 1) := by decide +kernel
theorem dX8_entries_11 : decode cX8_entries 11 = .ok (.if_icmp .ge 25, 3) := by decide +kernel
theorem dX8_entries_14 : decode cX8_entries 14 = .ok (.iload_n 1, 1) := by decide +kernel
theorem dX8_entries_15 : decode cX8_entries 15 = .ok (.aload_n 0, 1) := by decide +kernel
theorem dX8_entries_16 : decode cX8_entries 16 = .ok (.iload_n 2, 1) := by decide +kernel
theorem dX8_entries_17 : decode cX8_entries 17 = .ok (.invokevirtual 82, 3) := by decide +kernel
theorem dX8_entries_20 : decode cX8_entries 20 = .ok (.ifCond .eq 7, 3) := by decide +kernel
theorem dX8_entries_23 : decode cX8_entries 23 = .ok (.iconst 0, 1) := by decide +kernel
theorem dX8_entries_24 : decode cX8_entries 24 = .ok (.goto 4, 3) := by decide +kernel
theorem dX8_entries_27 : decode cX8_entries 27 = .ok (.iconst 1, 1) := by decide +kernel
theorem dX8_entries_28 : decode cX8_entries 28 = .ok (.iadd, 1) := by decide +kernel
theorem dX8_entries_29 : decode cX8_entries 29 = .ok (.istore_n 1, 1) := by decide +kernel
theorem dX8_entries_30 : decode cX8_entries 30 = .ok (.iinc 2 1, 3) := by decide +kernel
theorem dX8_entries_33 : decode cX8_entries 33 = .ok (.goto (-29), 3) := by decide +kernel
theorem dX8_entries_36 : decode cX8_entries 36 = .ok (.iload_n 1, 1) := by decide +kernel
theorem dX8_entries_37 : decode cX8_entries 37 = .ok (.ireturn, 1) := by decide +kernel
theorem dX8_hops_0 : decode cX8_hops 0 = .ok (.iconst 0, 1) := by decide +kernel
theorem dX8_hops_1 : decode cX8_hops 1 = .ok (.istore_n 2, 1) := by decide +kernel
theorem dX8_hops_2 : decode cX8_hops 2 = .ok (.iconst 0, 1) := by decide +kernel
theorem dX8_hops_3 : decode cX8_hops 3 = .ok (.istore_n 3, 1) := by decide +kernel
theorem dX8_hops_4 : decode cX8_hops 4 = .ok (.iload_n 3, 1) := by decide +kernel
theorem dX8_hops_5 : decode cX8_hops 5 = .ok (.aload_n 0, 1) := by decide +kernel
theorem dX8_hops_6 : decode cX8_hops 6 = .ok (.getfield 7, 3) := by decide +kernel
theorem dX8_hops_9 : decode cX8_hops 9 = .ok (.iconst 1, 1) := by decide +kernel
theorem dX8_hops_10 : decode cX8_hops 10 = .ok (.iaload, 1) := by decide +kernel
theorem dX8_hops_11 : decode cX8_hops 11 = .ok (.if_icmp .ge 33, 3) := by decide +kernel
theorem dX8_hops_14 : decode cX8_hops 14 = .ok (.iload_n 2, 1) := by decide +kernel
theorem dX8_hops_15 : decode cX8_hops 15 = .ok (.aload_n 0, 1) := by decide +kernel
theorem dX8_hops_16 : decode cX8_hops 16 = .ok (.aload_n 0, 1) := by decide +kernel
theorem dX8_hops_17 : decode cX8_hops 17 = .ok (.iload_n 1, 1) := by decide +kernel
theorem dX8_hops_18 : decode cX8_hops 18 = .ok (.iload_n 3, 1) := by decide +kernel
theorem dX8_hops_19 : decode cX8_hops 19 = .ok (.invokevirtual 86, 3) := by decide +kernel
theorem dX8_hops_22 : decode cX8_hops 22 = .ok (.iload_n 1, 1) := by decide +kernel
theorem dX8_hops_23 : decode cX8_hops 23 = .ok (.invokevirtual 89, 3) := by decide +kernel
theorem dX8_hops_26 : decode cX8_hops 26 = .ok (.ifCond .eq 9, 3) := by decide +kernel
theorem dX8_hops_29 : decode cX8_hops 29 = .ok (.iconst 1, 1) := by decide +kernel
theorem dX8_hops_30 : decode cX8_hops 30 = .ok (.iload_n 3, 1) := by decide +kernel
theorem dX8_hops_31 : decode cX8_hops 31 = .ok (.ishl, 1) := by decide +kernel
theorem dX8_hops_32 : decode cX8_hops 32 = .ok (.goto 4, 3) := by decide +kernel
theorem dX8_hops_35 : decode cX8_hops 35 = .ok (.iconst 0, 1) := by decide +kernel
theorem dX8_hops_36 : decode cX8_hops 36 = .ok (.ior, 1) := by decide +kernel
theorem dX8_hops_37 : decode cX8_hops 37 = .ok (.istore_n 2, 1) := by decide +kernel
theorem dX8_hops_38 : decode cX8_hops 38 = .ok (.iinc 3 1, 3) := by decide +kernel
theorem dX8_hops_41 : decode cX8_hops 41 = .ok (.goto (-37), 3) := by decide +kernel
theorem dX8_hops_44 : decode cX8_hops 44 = .ok (.iload_n 2, 1) := by decide +kernel
theorem dX8_hops_45 : decode cX8_hops 45 = .ok (.ireturn, 1) := by decide +kernel
theorem dX8_manyOf_0 : decode cX8_manyOf 0 = .ok (.iconst 0, 1) := by decide +kernel
theorem dX8_manyOf_1 : decode cX8_manyOf 1 = .ok (.istore_n 2, 1) := by decide +kernel
theorem dX8_manyOf_2 : decode cX8_manyOf 2 = .ok (.iconst 0, 1) := by decide +kernel
theorem dX8_manyOf_3 : decode cX8_manyOf 3 = .ok (.istore_n 3, 1) := by decide +kernel
theorem dX8_manyOf_4 : decode cX8_manyOf 4 = .ok (.iload_n 3, 1) := by decide +kernel
theorem dX8_manyOf_5 : decode cX8_manyOf 5 = .ok (.aload_n 0, 1) := by decide +kernel
theorem dX8_manyOf_6 : decode cX8_manyOf 6 = .ok (.getfield 7, 3) := by decide +kernel
theorem dX8_manyOf_9 : decode cX8_manyOf 9 = .ok (.iconst 0, 1) := by decide +kernel
theorem dX8_manyOf_10 : decode cX8_manyOf 10 = .ok (.iaload, 1) := by decide +kernel
theorem dX8_manyOf_11 : decode cX8_manyOf 11 = .ok (.if_icmp .ge 26, 3) := by decide +kernel
theorem dX8_manyOf_14 : decode cX8_manyOf 14 = .ok (.iload_n 2, 1) := by decide +kernel
theorem dX8_manyOf_15 : decode cX8_manyOf 15 = .ok (.aload_n 0, 1) := by decide +kernel
theorem dX8_manyOf_16 : decode cX8_manyOf 16 = .ok (.iload_n 3, 1) := by decide +kernel
theorem dX8_manyOf_17 : decode cX8_manyOf 17 = .ok (.iload_n 1, 1) := by decide +kernel
theorem dX8_manyOf_18 : decode cX8_manyOf 18 = .ok (.invokevirtual 89, 3) := by decide +kernel
theorem dX8_manyOf_21 : decode cX8_manyOf 21 = .ok (.ifCond .eq 7, 3) := by decide +kernel
theorem dX8_manyOf_24 : decode cX8_manyOf 24 = .ok (.iconst 1, 1) := by decide +kernel
theorem dX8_manyOf_25 : decode cX8_manyOf 25 = .ok (.goto 4, 3) := by decide +kernel
theorem dX8_manyOf_28 : decode cX8_manyOf 28 = .ok (.iconst 0, 1) := by decide +kernel
theorem dX8_manyOf_29 : decode cX8_manyOf 29 = .ok (.iadd, 1) := by decide +kernel
theorem dX8_manyOf_30 : decode cX8_manyOf 30 = .ok (.istore_n 2, 1) := by decide +kernel
theorem dX8_manyOf_31 : decode cX8_manyOf 31 = .ok (.iinc 3 1, 3) := by decide +kernel
theorem dX8_manyOf_34 : decode cX8_manyOf 34 = .ok (.goto (-30), 3) := by decide +kernel
theorem dX8_manyOf_37 : decode cX8_manyOf 37 = .ok (.iload_n 2, 1) := by decide +kernel
theorem dX8_manyOf_38 : decode cX8_manyOf 38 = .ok (.ireturn, 1) := by decide +kernel
theorem dX8_freeFrom_0 : decode cX8_freeFrom 0 = .ok (.iconst 0, 1) := by decide +kernel
theorem dX8_freeFrom_1 : decode cX8_freeFrom 1 = .ok (.istore_n 2, 1) := by decide +kernel
theorem dX8_freeFrom_2 : decode cX8_freeFrom 2 = .ok (.iload_n 2, 1) := by decide +kernel
theorem dX8_freeFrom_3 : decode cX8_freeFrom 3 = .ok (.aload_n 0, 1) := by decide +kernel
theorem dX8_freeFrom_4 : decode cX8_freeFrom 4 = .ok (.getfield 7, 3) := by decide +kernel
theorem dX8_freeFrom_7 : decode cX8_freeFrom 7 = .ok (.iconst 0, 1) := by decide +kernel
theorem dX8_freeFrom_8 : decode cX8_freeFrom 8 = .ok (.iaload, 1) := by decide +kernel
theorem dX8_freeFrom_9 : decode cX8_freeFrom 9 = .ok (.if_icmp .ge 24, 3) := by decide +kernel
theorem dX8_freeFrom_12 : decode cX8_freeFrom 12 = .ok (.aload_n 0, 1) := by decide +kernel
theorem dX8_freeFrom_13 : decode cX8_freeFrom 13 = .ok (.aload_n 0, 1) := by decide +kernel
theorem dX8_freeFrom_14 : decode cX8_freeFrom 14 = .ok (.iload_n 1, 1) := by decide +kernel
theorem dX8_freeFrom_15 : decode cX8_freeFrom 15 = .ok (.iload_n 2, 1) := by decide +kernel
theorem dX8_freeFrom_16 : decode cX8_freeFrom 16 = .ok (.invokevirtual 86, 3) := by decide +kernel
theorem dX8_freeFrom_19 : decode cX8_freeFrom 19 = .ok (.invokevirtual 82, 3) := by decide +kernel
theorem dX8_freeFrom_22 : decode cX8_freeFrom 22 = .ok (.ifCond .eq 5, 3) := by decide +kernel
theorem dX8_freeFrom_25 : decode cX8_freeFrom 25 = .ok (.iload_n 2, 1) := by decide +kernel
theorem dX8_freeFrom_26 : decode cX8_freeFrom 26 = .ok (.ireturn, 1) := by decide +kernel
theorem dX8_freeFrom_27 : decode cX8_freeFrom 27 = .ok (.iinc 2 1, 3) := by decide +kernel
theorem dX8_freeFrom_30 : decode cX8_freeFrom 30 = .ok (.goto (-28), 3) := by decide +kernel
theorem dX8_freeFrom_33 : decode cX8_freeFrom 33 = .ok (.iconst (-1), 1) := by decide +kernel
theorem dX8_freeFrom_34 : decode cX8_freeFrom 34 = .ok (.ireturn, 1) := by decide +kernel
theorem dX8_offTogether_0 : decode cX8_offTogether 0 = .ok (.iconst 0, 1) := by decide +kernel
theorem dX8_offTogether_1 : decode cX8_offTogether 1 = .ok (.istore_n 1, 1) := by decide +kernel
theorem dX8_offTogether_2 : decode cX8_offTogether 2 = .ok (.iconst 0, 1) := by decide +kernel
theorem dX8_offTogether_3 : decode cX8_offTogether 3 = .ok (.istore_n 2, 1) := by decide +kernel
theorem dX8_offTogether_4 : decode cX8_offTogether 4 = .ok (.iload_n 2, 1) := by decide +kernel
theorem dX8_offTogether_5 : decode cX8_offTogether 5 = .ok (.aload_n 0, 1) := by decide +kernel
theorem dX8_offTogether_6 : decode cX8_offTogether 6 = .ok (.getfield 7, 3) := by decide +kernel
theorem dX8_offTogether_9 : decode cX8_offTogether 9 = .ok (.iconst 0, 1) := by decide +kernel
theorem dX8_offTogether_10 : decode cX8_offTogether 10 = .ok (.iaload, 1) := by decide +kernel
theorem dX8_offTogether_11 : decode cX8_offTogether 11 = .ok (.if_icmp .ge 29, 3) := by decide +kernel
theorem dX8_offTogether_14 : decode cX8_offTogether 14 = .ok (.iload_n 1, 1) := by decide +kernel
theorem dX8_offTogether_15 : decode cX8_offTogether 15 = .ok (.aload_n 0, 1) := by decide +kernel
theorem dX8_offTogether_16 : decode cX8_offTogether 16 = .ok (.iload_n 2, 1) := by decide +kernel
theorem dX8_offTogether_17 : decode cX8_offTogether 17 = .ok (.invokevirtual 82, 3) := by decide +kernel
theorem dX8_offTogether_20 : decode cX8_offTogether 20 = .ok (.ifCond .eq 7, 3) := by decide +kernel
theorem dX8_offTogether_23 : decode cX8_offTogether 23 = .ok (.iconst 0, 1) := by decide +kernel
theorem dX8_offTogether_24 : decode cX8_offTogether 24 = .ok (.goto 8, 3) := by decide +kernel
theorem dX8_offTogether_27 : decode cX8_offTogether 27 = .ok (.aload_n 0, 1) := by decide +kernel
theorem dX8_offTogether_28 : decode cX8_offTogether 28 = .ok (.iload_n 2, 1) := by decide +kernel
theorem dX8_offTogether_29 : decode cX8_offTogether 29 = .ok (.invokevirtual 93, 3) := by decide +kernel
theorem dX8_offTogether_32 : decode cX8_offTogether 32 = .ok (.iadd, 1) := by decide +kernel
theorem dX8_offTogether_33 : decode cX8_offTogether 33 = .ok (.istore_n 1, 1) := by decide +kernel
theorem dX8_offTogether_34 : decode cX8_offTogether 34 = .ok (.iinc 2 1, 3) := by decide +kernel
theorem dX8_offTogether_37 : decode cX8_offTogether 37 = .ok (.goto (-33), 3) := by decide +kernel
theorem dX8_offTogether_40 : decode cX8_offTogether 40 = .ok (.iload_n 1, 1) := by decide +kernel
theorem dX8_offTogether_41 : decode cX8_offTogether 41 = .ok (.ireturn, 1) := by decide +kernel
theorem dX8_copies_0 : decode cX8_copies 0 = .ok (.iconst 0, 1) := by decide +kernel
theorem dX8_copies_1 : decode cX8_copies 1 = .ok (.istore_n 3, 1) := by decide +kernel
theorem dX8_copies_2 : decode cX8_copies 2 = .ok (.iload_n 3, 1) := by decide +kernel
theorem dX8_copies_3 : decode cX8_copies 3 = .ok (.sipush 137, 3) := by decide +kernel
theorem dX8_copies_6 : decode cX8_copies 6 = .ok (.if_icmp .ge 15, 3) := by decide +kernel
theorem dX8_copies_9 : decode cX8_copies 9 = .ok (.aload_n 2, 1) := by decide +kernel
theorem dX8_copies_10 : decode cX8_copies 10 = .ok (.iload_n 3, 1) := by decide +kernel
theorem dX8_copies_11 : decode cX8_copies 11 = .ok (.aload_n 1, 1) := by decide +kernel
theorem dX8_copies_12 : decode cX8_copies 12 = .ok (.iload_n 3, 1) := by decide +kernel
theorem dX8_copies_13 : decode cX8_copies 13 = .ok (.iaload, 1) := by decide +kernel
theorem dX8_copies_14 : decode cX8_copies 14 = .ok (.iastore, 1) := by decide +kernel
theorem dX8_copies_15 : decode cX8_copies 15 = .ok (.iinc 3 1, 3) := by decide +kernel
theorem dX8_copies_18 : decode cX8_copies 18 = .ok (.goto (-16), 3) := by decide +kernel
theorem dX8_copies_21 : decode cX8_copies 21 = .ok (.return_, 1) := by decide +kernel
theorem dX8_moves_0 : decode cX8_moves 0 = .ok (.aload_n 0, 1) := by decide +kernel
theorem dX8_moves_1 : decode cX8_moves 1 = .ok (.getfield 7, 3) := by decide +kernel
theorem dX8_moves_4 : decode cX8_moves 4 = .ok (.bipush 9, 2) := by decide +kernel
theorem dX8_moves_6 : decode cX8_moves 6 = .ok (.iload_n 2, 1) := by decide +kernel
theorem dX8_moves_7 : decode cX8_moves 7 = .ok (.iadd, 1) := by decide +kernel
theorem dX8_moves_8 : decode cX8_moves 8 = .ok (.aload_n 0, 1) := by decide +kernel
theorem dX8_moves_9 : decode cX8_moves 9 = .ok (.getfield 7, 3) := by decide +kernel
theorem dX8_moves_12 : decode cX8_moves 12 = .ok (.bipush 9, 2) := by decide +kernel
theorem dX8_moves_14 : decode cX8_moves 14 = .ok (.iload_n 1, 1) := by decide +kernel
theorem dX8_moves_15 : decode cX8_moves 15 = .ok (.iadd, 1) := by decide +kernel
theorem dX8_moves_16 : decode cX8_moves 16 = .ok (.iaload, 1) := by decide +kernel
theorem dX8_moves_17 : decode cX8_moves 17 = .ok (.iastore, 1) := by decide +kernel
theorem dX8_moves_18 : decode cX8_moves 18 = .ok (.aload_n 0, 1) := by decide +kernel
theorem dX8_moves_19 : decode cX8_moves 19 = .ok (.getfield 7, 3) := by decide +kernel
theorem dX8_moves_22 : decode cX8_moves 22 = .ok (.bipush 73, 2) := by decide +kernel
theorem dX8_moves_24 : decode cX8_moves 24 = .ok (.iload_n 2, 1) := by decide +kernel
theorem dX8_moves_25 : decode cX8_moves 25 = .ok (.iadd, 1) := by decide +kernel
theorem dX8_moves_26 : decode cX8_moves 26 = .ok (.aload_n 0, 1) := by decide +kernel
theorem dX8_moves_27 : decode cX8_moves 27 = .ok (.getfield 7, 3) := by decide +kernel
theorem dX8_moves_30 : decode cX8_moves 30 = .ok (.bipush 73, 2) := by decide +kernel
theorem dX8_moves_32 : decode cX8_moves 32 = .ok (.iload_n 1, 1) := by decide +kernel
theorem dX8_moves_33 : decode cX8_moves 33 = .ok (.iadd, 1) := by decide +kernel
theorem dX8_moves_34 : decode cX8_moves 34 = .ok (.iaload, 1) := by decide +kernel
theorem dX8_moves_35 : decode cX8_moves 35 = .ok (.iastore, 1) := by decide +kernel
theorem dX8_moves_36 : decode cX8_moves 36 = .ok (.aload_n 0, 1) := by decide +kernel
theorem dX8_moves_37 : decode cX8_moves 37 = .ok (.getfield 7, 3) := by decide +kernel
theorem dX8_moves_40 : decode cX8_moves 40 = .ok (.bipush 9, 2) := by decide +kernel
theorem dX8_moves_42 : decode cX8_moves 42 = .ok (.iload_n 1, 1) := by decide +kernel
theorem dX8_moves_43 : decode cX8_moves 43 = .ok (.iadd, 1) := by decide +kernel
theorem dX8_moves_44 : decode cX8_moves 44 = .ok (.iconst 0, 1) := by decide +kernel
theorem dX8_moves_45 : decode cX8_moves 45 = .ok (.iastore, 1) := by decide +kernel
theorem dX8_moves_46 : decode cX8_moves 46 = .ok (.aload_n 0, 1) := by decide +kernel
theorem dX8_moves_47 : decode cX8_moves 47 = .ok (.getfield 7, 3) := by decide +kernel
theorem dX8_moves_50 : decode cX8_moves 50 = .ok (.bipush 73, 2) := by decide +kernel
theorem dX8_moves_52 : decode cX8_moves 52 = .ok (.iload_n 1, 1) := by decide +kernel
theorem dX8_moves_53 : decode cX8_moves 53 = .ok (.iadd, 1) := by decide +kernel
theorem dX8_moves_54 : decode cX8_moves 54 = .ok (.iconst 0, 1) := by decide +kernel
theorem dX8_moves_55 : decode cX8_moves 55 = .ok (.iastore, 1) := by decide +kernel
theorem dX8_moves_56 : decode cX8_moves 56 = .ok (.return_, 1) := by decide +kernel
theorem dX8_mover_0 : decode cX8_mover 0 = .ok (.aload_n 0, 1) := by decide +kernel
theorem dX8_mover_1 : decode cX8_mover 1 = .ok (.getfield 7, 3) := by decide +kernel
theorem dX8_mover_4 : decode cX8_mover 4 = .ok (.iconst 1, 1) := by decide +kernel
theorem dX8_mover_5 : decode cX8_mover 5 = .ok (.iaload, 1) := by decide +kernel
theorem dX8_mover_6 : decode cX8_mover 6 = .ok (.iconst 1, 1) := by decide +kernel
theorem dX8_mover_7 : decode cX8_mover 7 = .ok (.isub, 1) := by decide +kernel
theorem dX8_mover_8 : decode cX8_mover 8 = .ok (.istore_n 2, 1) := by decide +kernel
theorem dX8_mover_9 : decode cX8_mover 9 = .ok (.iload_n 2, 1) := by decide +kernel
theorem dX8_mover_10 : decode cX8_mover 10 = .ok (.ifCond .le 55, 3) := by decide +kernel
theorem dX8_mover_13 : decode cX8_mover 13 = .ok (.aload_n 0, 1) := by decide +kernel
theorem dX8_mover_14 : decode cX8_mover 14 = .ok (.iload_n 1, 1) := by decide +kernel
theorem dX8_mover_15 : decode cX8_mover 15 = .ok (.iload_n 2, 1) := by decide +kernel
theorem dX8_mover_16 : decode cX8_mover 16 = .ok (.ineg, 1) := by decide +kernel
theorem dX8_mover_17 : decode cX8_mover 17 = .ok (.invokevirtual 86, 3) := by decide +kernel
theorem dX8_mover_20 : decode cX8_mover 20 = .ok (.istore_n 3, 1) := by decide +kernel
theorem dX8_mover_21 : decode cX8_mover 21 = .ok (.iconst 0, 1) := by decide +kernel
theorem dX8_mover_22 : decode cX8_mover 22 = .ok (.istore 4, 2) := by decide +kernel
theorem dX8_mover_24 : decode cX8_mover 24 = .ok (.iload 4, 2) := by decide +kernel
theorem dX8_mover_26 : decode cX8_mover 26 = .ok (.iload_n 2, 1) := by decide +kernel
theorem dX8_mover_27 : decode cX8_mover 27 = .ok (.if_icmp .ge 32, 3) := by decide +kernel
theorem dX8_mover_30 : decode cX8_mover 30 = .ok (.aload_n 0, 1) := by decide +kernel
theorem dX8_mover_31 : decode cX8_mover 31 = .ok (.aload_n 0, 1) := by decide +kernel
theorem dX8_mover_32 : decode cX8_mover 32 = .ok (.iload_n 3, 1) := by decide +kernel
theorem dX8_mover_33 : decode cX8_mover 33 = .ok (.iload 4, 2) := by decide +kernel
theorem dX8_mover_35 : decode cX8_mover 35 = .ok (.invokevirtual 86, 3) := by decide +kernel
theorem dX8_mover_38 : decode cX8_mover 38 = .ok (.iload_n 3, 1) := by decide +kernel
theorem dX8_mover_39 : decode cX8_mover 39 = .ok (.invokevirtual 89, 3) := by decide +kernel
theorem dX8_mover_42 : decode cX8_mover 42 = .ok (.ifCond .eq 11, 3) := by decide +kernel
theorem dX8_mover_45 : decode cX8_mover 45 = .ok (.aload_n 0, 1) := by decide +kernel
theorem dX8_mover_46 : decode cX8_mover 46 = .ok (.iload_n 3, 1) := by decide +kernel
theorem dX8_mover_47 : decode cX8_mover 47 = .ok (.iload 4, 2) := by decide +kernel
theorem dX8_mover_49 : decode cX8_mover 49 = .ok (.invokevirtual 86, 3) := by decide +kernel
theorem dX8_mover_52 : decode cX8_mover 52 = .ok (.ireturn, 1) := by decide +kernel
theorem dX8_mover_53 : decode cX8_mover 53 = .ok (.iinc 4 1, 3) := by decide +kernel
theorem dX8_mover_56 : decode cX8_mover 56 = .ok (.goto (-32), 3) := by decide +kernel
theorem dX8_mover_59 : decode cX8_mover 59 = .ok (.iinc 2 (-1), 3) := by decide +kernel
theorem dX8_mover_62 : decode cX8_mover 62 = .ok (.goto (-53), 3) := by decide +kernel
theorem dX8_mover_65 : decode cX8_mover 65 = .ok (.iconst (-1), 1) := by decide +kernel
theorem dX8_mover_66 : decode cX8_mover 66 = .ok (.ireturn, 1) := by decide +kernel
theorem dX8_lays_0 : decode cX8_lays 0 = .ok (.aload_n 0, 1) := by decide +kernel
theorem dX8_lays_1 : decode cX8_lays 1 = .ok (.aload_n 0, 1) := by decide +kernel
theorem dX8_lays_2 : decode cX8_lays 2 = .ok (.getfield 7, 3) := by decide +kernel
theorem dX8_lays_5 : decode cX8_lays 5 = .ok (.aload_n 0, 1) := by decide +kernel
theorem dX8_lays_6 : decode cX8_lays 6 = .ok (.getfield 22, 3) := by decide +kernel
theorem dX8_lays_9 : decode cX8_lays 9 = .ok (.invokevirtual 96, 3) := by decide +kernel
theorem dX8_lays_12 : decode cX8_lays 12 = .ok (.aload_n 0, 1) := by decide +kernel
theorem dX8_lays_13 : decode cX8_lays 13 = .ok (.iload_n 1, 1) := by decide +kernel
theorem dX8_lays_14 : decode cX8_lays 14 = .ok (.invokevirtual 75, 3) := by decide +kernel
theorem dX8_lays_17 : decode cX8_lays 17 = .ok (.istore_n 3, 1) := by decide +kernel
theorem dX8_lays_18 : decode cX8_lays 18 = .ok (.aload_n 0, 1) := by decide +kernel
theorem dX8_lays_19 : decode cX8_lays 19 = .ok (.iload_n 3, 1) := by decide +kernel
theorem dX8_lays_20 : decode cX8_lays 20 = .ok (.invokevirtual 100, 3) := by decide +kernel
theorem dX8_lays_23 : decode cX8_lays 23 = .ok (.istore 4, 2) := by decide +kernel
theorem dX8_lays_25 : decode cX8_lays 25 = .ok (.iload 4, 2) := by decide +kernel
theorem dX8_lays_27 : decode cX8_lays 27 = .ok (.iconst (-1), 1) := by decide +kernel
theorem dX8_lays_28 : decode cX8_lays 28 = .ok (.if_icmp .ne 7, 3) := by decide +kernel
theorem dX8_lays_31 : decode cX8_lays 31 = .ok (.iconst (-1), 1) := by decide +kernel
theorem dX8_lays_32 : decode cX8_lays 32 = .ok (.goto 10, 3) := by decide +kernel
theorem dX8_lays_35 : decode cX8_lays 35 = .ok (.aload_n 0, 1) := by decide +kernel
theorem dX8_lays_36 : decode cX8_lays 36 = .ok (.iload_n 3, 1) := by decide +kernel
theorem dX8_lays_37 : decode cX8_lays 37 = .ok (.iload 4, 2) := by decide +kernel
theorem dX8_lays_39 : decode cX8_lays 39 = .ok (.invokevirtual 86, 3) := by decide +kernel
theorem dX8_lays_42 : decode cX8_lays 42 = .ok (.istore 5, 2) := by decide +kernel
theorem dX8_lays_44 : decode cX8_lays 44 = .ok (.iload 5, 2) := by decide +kernel
theorem dX8_lays_46 : decode cX8_lays 46 = .ok (.iconst (-1), 1) := by decide +kernel
theorem dX8_lays_47 : decode cX8_lays 47 = .ok (.if_icmp .eq 58, 3) := by decide +kernel
theorem dX8_lays_50 : decode cX8_lays 50 = .ok (.aload_n 0, 1) := by decide +kernel
theorem dX8_lays_51 : decode cX8_lays 51 = .ok (.iload_n 3, 1) := by decide +kernel
theorem dX8_lays_52 : decode cX8_lays 52 = .ok (.iload 5, 2) := by decide +kernel
theorem dX8_lays_54 : decode cX8_lays 54 = .ok (.invokevirtual 78, 3) := by decide +kernel
theorem dX8_lays_57 : decode cX8_lays 57 = .ok (.aload_n 0, 1) := by decide +kernel
theorem dX8_lays_58 : decode cX8_lays 58 = .ok (.getfield 7, 3) := by decide +kernel
theorem dX8_lays_61 : decode cX8_lays 61 = .ok (.iconst 1, 1) := by decide +kernel
theorem dX8_lays_62 : decode cX8_lays 62 = .ok (.iaload, 1) := by decide +kernel
theorem dX8_lays_63 : decode cX8_lays 63 = .ok (.if_icmp .lt 42, 3) := by decide +kernel
theorem dX8_lays_66 : decode cX8_lays 66 = .ok (.aload_n 0, 1) := by decide +kernel
theorem dX8_lays_67 : decode cX8_lays 67 = .ok (.iload 5, 2) := by decide +kernel
theorem dX8_lays_69 : decode cX8_lays 69 = .ok (.invokevirtual 103, 3) := by decide +kernel
theorem dX8_lays_72 : decode cX8_lays 72 = .ok (.istore 6, 2) := by decide +kernel
theorem dX8_lays_74 : decode cX8_lays 74 = .ok (.iload 6, 2) := by decide +kernel
theorem dX8_lays_76 : decode cX8_lays 76 = .ok (.iconst (-1), 1) := by decide +kernel
theorem dX8_lays_77 : decode cX8_lays 77 = .ok (.if_icmp .eq 21, 3) := by decide +kernel
theorem dX8_lays_80 : decode cX8_lays 80 = .ok (.aload_n 0, 1) := by decide +kernel
theorem dX8_lays_81 : decode cX8_lays 81 = .ok (.iload 6, 2) := by decide +kernel
theorem dX8_lays_83 : decode cX8_lays 83 = .ok (.iload 5, 2) := by decide +kernel
theorem dX8_lays_85 : decode cX8_lays 85 = .ok (.invokevirtual 106, 3) := by decide +kernel
theorem dX8_lays_88 : decode cX8_lays 88 = .ok (.aload_n 0, 1) := by decide +kernel
theorem dX8_lays_89 : decode cX8_lays 89 = .ok (.getfield 7, 3) := by decide +kernel
theorem dX8_lays_92 : decode cX8_lays 92 = .ok (.iconst 4, 1) := by decide +kernel
theorem dX8_lays_93 : decode cX8_lays 93 = .ok (.dup2, 1) := by decide +kernel
theorem dX8_lays_94 : decode cX8_lays 94 = .ok (.iaload, 1) := by decide +kernel
theorem dX8_lays_95 : decode cX8_lays 95 = .ok (.iconst 1, 1) := by decide +kernel
theorem dX8_lays_96 : decode cX8_lays 96 = .ok (.iadd, 1) := by decide +kernel
theorem dX8_lays_97 : decode cX8_lays 97 = .ok (.iastore, 1) := by decide +kernel
theorem dX8_lays_98 : decode cX8_lays 98 = .ok (.iload 6, 2) := by decide +kernel
theorem dX8_lays_100 : decode cX8_lays 100 = .ok (.istore 5, 2) := by decide +kernel
theorem dX8_lays_102 : decode cX8_lays 102 = .ok (.goto (-58), 3) := by decide +kernel
theorem dX8_lays_105 : decode cX8_lays 105 = .ok (.iload 5, 2) := by decide +kernel
theorem dX8_lays_107 : decode cX8_lays 107 = .ok (.iconst (-1), 1) := by decide +kernel
theorem dX8_lays_108 : decode cX8_lays 108 = .ok (.if_icmp .ne 17, 3) := by decide +kernel
theorem dX8_lays_111 : decode cX8_lays 111 = .ok (.aload_n 0, 1) := by decide +kernel
theorem dX8_lays_112 : decode cX8_lays 112 = .ok (.aload_n 0, 1) := by decide +kernel
theorem dX8_lays_113 : decode cX8_lays 113 = .ok (.getfield 22, 3) := by decide +kernel
theorem dX8_lays_116 : decode cX8_lays 116 = .ok (.aload_n 0, 1) := by decide +kernel
theorem dX8_lays_117 : decode cX8_lays 117 = .ok (.getfield 7, 3) := by decide +kernel
theorem dX8_lays_120 : decode cX8_lays 120 = .ok (.invokevirtual 96, 3) := by decide +kernel
theorem dX8_lays_123 : decode cX8_lays 123 = .ok (.iconst (-1), 1) := by decide +kernel
theorem dX8_lays_124 : decode cX8_lays 124 = .ok (.ireturn, 1) := by decide +kernel
theorem dX8_lays_125 : decode cX8_lays 125 = .ok (.aload_n 0, 1) := by decide +kernel
theorem dX8_lays_126 : decode cX8_lays 126 = .ok (.getfield 7, 3) := by decide +kernel
theorem dX8_lays_129 : decode cX8_lays 129 = .ok (.bipush 9, 2) := by decide +kernel
theorem dX8_lays_131 : decode cX8_lays 131 = .ok (.iload 5, 2) := by decide +kernel
theorem dX8_lays_133 : decode cX8_lays 133 = .ok (.iadd, 1) := by decide +kernel
theorem dX8_lays_134 : decode cX8_lays 134 = .ok (.iload_n 1, 1) := by decide +kernel
theorem dX8_lays_135 : decode cX8_lays 135 = .ok (.iconst 1, 1) := by decide +kernel
theorem dX8_lays_136 : decode cX8_lays 136 = .ok (.iadd, 1) := by decide +kernel
theorem dX8_lays_137 : decode cX8_lays 137 = .ok (.iastore, 1) := by decide +kernel
theorem dX8_lays_138 : decode cX8_lays 138 = .ok (.aload_n 0, 1) := by decide +kernel
theorem dX8_lays_139 : decode cX8_lays 139 = .ok (.getfield 7, 3) := by decide +kernel
theorem dX8_lays_142 : decode cX8_lays 142 = .ok (.bipush 73, 2) := by decide +kernel
theorem dX8_lays_144 : decode cX8_lays 144 = .ok (.iload 5, 2) := by decide +kernel
theorem dX8_lays_146 : decode cX8_lays 146 = .ok (.iadd, 1) := by decide +kernel
theorem dX8_lays_147 : decode cX8_lays 147 = .ok (.iload_n 2, 1) := by decide +kernel
theorem dX8_lays_148 : decode cX8_lays 148 = .ok (.iastore, 1) := by decide +kernel
theorem dX8_lays_149 : decode cX8_lays 149 = .ok (.iload 5, 2) := by decide +kernel
theorem dX8_lays_151 : decode cX8_lays 151 = .ok (.ireturn, 1) := by decide +kernel
theorem dX8_empties_0 : decode cX8_empties 0 = .ok (.iconst 0, 1) := by decide +kernel
theorem dX8_empties_1 : decode cX8_empties 1 = .ok (.istore_n 1, 1) := by decide +kernel
theorem dX8_empties_2 : decode cX8_empties 2 = .ok (.iload_n 1, 1) := by decide +kernel
theorem dX8_empties_3 : decode cX8_empties 3 = .ok (.bipush 64, 2) := by decide +kernel
theorem dX8_empties_5 : decode cX8_empties 5 = .ok (.if_icmp .ge 29, 3) := by decide +kernel
theorem dX8_empties_8 : decode cX8_empties 8 = .ok (.aload_n 0, 1) := by decide +kernel
theorem dX8_empties_9 : decode cX8_empties 9 = .ok (.getfield 7, 3) := by decide +kernel
theorem dX8_empties_12 : decode cX8_empties 12 = .ok (.bipush 9, 2) := by decide +kernel
theorem dX8_empties_14 : decode cX8_empties 14 = .ok (.iload_n 1, 1) := by decide +kernel
theorem dX8_empties_15 : decode cX8_empties 15 = .ok (.iadd, 1) := by decide +kernel
theorem dX8_empties_16 : decode cX8_empties 16 = .ok (.iconst 0, 1) := by decide +kernel
theorem dX8_empties_17 : decode cX8_empties 17 = .ok (.iastore, 1) := by decide +kernel
theorem dX8_empties_18 : decode cX8_empties 18 = .ok (.aload_n 0, 1) := by decide +kernel
theorem dX8_empties_19 : decode cX8_empties 19 = .ok (.getfield 7, 3) := by decide +kernel
theorem dX8_empties_22 : decode cX8_empties 22 = .ok (.bipush 73, 2) := by decide +kernel
theorem dX8_empties_24 : decode cX8_empties 24 = .ok (.iload_n 1, 1) := by decide +kernel
theorem dX8_empties_25 : decode cX8_empties 25 = .ok (.iadd, 1) := by decide +kernel
theorem dX8_empties_26 : decode cX8_empties 26 = .ok (.iconst 0, 1) := by decide +kernel
theorem dX8_empties_27 : decode cX8_empties 27 = .ok (.iastore, 1) := by decide +kernel
theorem dX8_empties_28 : decode cX8_empties 28 = .ok (.iinc 1 1, 3) := by decide +kernel
theorem dX8_empties_31 : decode cX8_empties 31 = .ok (.goto (-29), 3) := by decide +kernel
theorem dX8_empties_34 : decode cX8_empties 34 = .ok (.return_, 1) := by decide +kernel
theorem dX8_notes_0 : decode cX8_notes 0 = .ok (.aload_n 0, 1) := by decide +kernel
theorem dX8_notes_1 : decode cX8_notes 1 = .ok (.iconst 0, 1) := by decide +kernel
theorem dX8_notes_2 : decode cX8_notes 2 = .ok (.putfield 110, 3) := by decide +kernel
theorem dX8_notes_5 : decode cX8_notes 5 = .ok (.iconst 0, 1) := by decide +kernel
theorem dX8_notes_6 : decode cX8_notes 6 = .ok (.istore_n 1, 1) := by decide +kernel
theorem dX8_notes_7 : decode cX8_notes 7 = .ok (.iload_n 1, 1) := by decide +kernel
theorem dX8_notes_8 : decode cX8_notes 8 = .ok (.aload_n 0, 1) := by decide +kernel
theorem dX8_notes_9 : decode cX8_notes 9 = .ok (.getfield 7, 3) := by decide +kernel
theorem dX8_notes_12 : decode cX8_notes 12 = .ok (.iconst 0, 1) := by decide +kernel
theorem dX8_notes_13 : decode cX8_notes 13 = .ok (.iaload, 1) := by decide +kernel
theorem dX8_notes_14 : decode cX8_notes 14 = .ok (.if_icmp .ge 59, 3) := by decide +kernel
theorem dX8_notes_17 : decode cX8_notes 17 = .ok (.aload_n 0, 1) := by decide +kernel
theorem dX8_notes_18 : decode cX8_notes 18 = .ok (.iload_n 1, 1) := by decide +kernel
theorem dX8_notes_19 : decode cX8_notes 19 = .ok (.invokevirtual 82, 3) := by decide +kernel
theorem dX8_notes_22 : decode cX8_notes 22 = .ok (.ifCond .ne 45, 3) := by decide +kernel
theorem dX8_notes_25 : decode cX8_notes 25 = .ok (.aload_n 0, 1) := by decide +kernel
theorem dX8_notes_26 : decode cX8_notes 26 = .ok (.getfield 31, 3) := by decide +kernel
theorem dX8_notes_29 : decode cX8_notes 29 = .ok (.aload_n 0, 1) := by decide +kernel
theorem dX8_notes_30 : decode cX8_notes 30 = .ok (.getfield 110, 3) := by decide +kernel
theorem dX8_notes_33 : decode cX8_notes 33 = .ok (.aload_n 0, 1) := by decide +kernel
theorem dX8_notes_34 : decode cX8_notes 34 = .ok (.iload_n 1, 1) := by decide +kernel
theorem dX8_notes_35 : decode cX8_notes 35 = .ok (.invokevirtual 71, 3) := by decide +kernel
theorem dX8_notes_38 : decode cX8_notes 38 = .ok (.iastore, 1) := by decide +kernel
theorem dX8_notes_39 : decode cX8_notes 39 = .ok (.aload_n 0, 1) := by decide +kernel
theorem dX8_notes_40 : decode cX8_notes 40 = .ok (.getfield 34, 3) := by decide +kernel
theorem dX8_notes_43 : decode cX8_notes 43 = .ok (.aload_n 0, 1) := by decide +kernel
theorem dX8_notes_44 : decode cX8_notes 44 = .ok (.getfield 110, 3) := by decide +kernel
theorem dX8_notes_47 : decode cX8_notes 47 = .ok (.aload_n 0, 1) := by decide +kernel
theorem dX8_notes_48 : decode cX8_notes 48 = .ok (.getfield 7, 3) := by decide +kernel
theorem dX8_notes_51 : decode cX8_notes 51 = .ok (.bipush 73, 2) := by decide +kernel
theorem dX8_notes_53 : decode cX8_notes 53 = .ok (.iload_n 1, 1) := by decide +kernel
theorem dX8_notes_54 : decode cX8_notes 54 = .ok (.iadd, 1) := by decide +kernel
theorem dX8_notes_55 : decode cX8_notes 55 = .ok (.iaload, 1) := by decide +kernel
theorem dX8_notes_56 : decode cX8_notes 56 = .ok (.iastore, 1) := by decide +kernel
theorem dX8_notes_57 : decode cX8_notes 57 = .ok (.aload_n 0, 1) := by decide +kernel
theorem dX8_notes_58 : decode cX8_notes 58 = .ok (.dup, 1) := by decide +kernel
theorem dX8_notes_59 : decode cX8_notes 59 = .ok (.getfield 110, 3) := by decide +kernel
theorem dX8_notes_62 : decode cX8_notes 62 = .ok (.iconst 1, 1) := by decide +kernel
theorem dX8_notes_63 : decode cX8_notes 63 = .ok (.iadd, 1) := by decide +kernel
theorem dX8_notes_64 : decode cX8_notes 64 = .ok (.putfield 110, 3) := by decide +kernel
theorem dX8_notes_67 : decode cX8_notes 67 = .ok (.iinc 1 1, 3) := by decide +kernel
theorem dX8_notes_70 : decode cX8_notes 70 = .ok (.goto (-63), 3) := by decide +kernel
theorem dX8_notes_73 : decode cX8_notes 73 = .ok (.return_, 1) := by decide +kernel
theorem dX8_builds_0 : decode cX8_builds 0 = .ok (.aload_n 0, 1) := by decide +kernel
theorem dX8_builds_1 : decode cX8_builds 1 = .ok (.invokevirtual 113, 3) := by decide +kernel
theorem dX8_builds_4 : decode cX8_builds 4 = .ok (.aload_n 0, 1) := by decide +kernel
theorem dX8_builds_5 : decode cX8_builds 5 = .ok (.getfield 7, 3) := by decide +kernel
theorem dX8_builds_8 : decode cX8_builds 8 = .ok (.iconst 0, 1) := by decide +kernel
theorem dX8_builds_9 : decode cX8_builds 9 = .ok (.iload_n 1, 1) := by decide +kernel
theorem dX8_builds_10 : decode cX8_builds 10 = .ok (.iastore, 1) := by decide +kernel
theorem dX8_builds_11 : decode cX8_builds 11 = .ok (.aload_n 0, 1) := by decide +kernel
theorem dX8_builds_12 : decode cX8_builds 12 = .ok (.getfield 7, 3) := by decide +kernel
theorem dX8_builds_15 : decode cX8_builds 15 = .ok (.iconst 4, 1) := by decide +kernel
theorem dX8_builds_16 : decode cX8_builds 16 = .ok (.iconst 0, 1) := by decide +kernel
theorem dX8_builds_17 : decode cX8_builds 17 = .ok (.iastore, 1) := by decide +kernel
theorem dX8_builds_18 : decode cX8_builds 18 = .ok (.iconst 0, 1) := by decide +kernel
theorem dX8_builds_19 : decode cX8_builds 19 = .ok (.istore_n 2, 1) := by decide +kernel
theorem dX8_builds_20 : decode cX8_builds 20 = .ok (.iload_n 2, 1) := by decide +kernel
theorem dX8_builds_21 : decode cX8_builds 21 = .ok (.aload_n 0, 1) := by decide +kernel
theorem dX8_builds_22 : decode cX8_builds 22 = .ok (.getfield 110, 3) := by decide +kernel
theorem dX8_builds_25 : decode cX8_builds 25 = .ok (.if_icmp .ge 31, 3) := by decide +kernel
theorem dX8_builds_28 : decode cX8_builds 28 = .ok (.aload_n 0, 1) := by decide +kernel
theorem dX8_builds_29 : decode cX8_builds 29 = .ok (.aload_n 0, 1) := by decide +kernel
theorem dX8_builds_30 : decode cX8_builds 30 = .ok (.getfield 31, 3) := by decide +kernel
theorem dX8_builds_33 : decode cX8_builds 33 = .ok (.iload_n 2, 1) := by decide +kernel
theorem dX8_builds_34 : decode cX8_builds 34 = .ok (.iaload, 1) := by decide +kernel
theorem dX8_builds_35 : decode cX8_builds 35 = .ok (.aload_n 0, 1) := by decide +kernel
theorem dX8_builds_36 : decode cX8_builds 36 = .ok (.getfield 34, 3) := by decide +kernel
theorem dX8_builds_39 : decode cX8_builds 39 = .ok (.iload_n 2, 1) := by decide +kernel
theorem dX8_builds_40 : decode cX8_builds 40 = .ok (.iaload, 1) := by decide +kernel
theorem dX8_builds_41 : decode cX8_builds 41 = .ok (.invokevirtual 116, 3) := by decide +kernel
theorem dX8_builds_44 : decode cX8_builds 44 = .ok (.iconst (-1), 1) := by decide +kernel
theorem dX8_builds_45 : decode cX8_builds 45 = .ok (.if_icmp .ne 5, 3) := by decide +kernel
theorem dX8_builds_48 : decode cX8_builds 48 = .ok (.iconst 0, 1) := by decide +kernel
theorem dX8_builds_49 : decode cX8_builds 49 = .ok (.ireturn, 1) := by decide +kernel
theorem dX8_builds_50 : decode cX8_builds 50 = .ok (.iinc 2 1, 3) := by decide +kernel
theorem dX8_builds_53 : decode cX8_builds 53 = .ok (.goto (-33), 3) := by decide +kernel
theorem dX8_builds_56 : decode cX8_builds 56 = .ok (.iconst 1, 1) := by decide +kernel
theorem dX8_builds_57 : decode cX8_builds 57 = .ok (.ireturn, 1) := by decide +kernel
theorem dX8_counts_0 : decode cX8_counts 0 = .ok (.iload_n 1, 1) := by decide +kernel
theorem dX8_counts_1 : decode cX8_counts 1 = .ok (.istore_n 2, 1) := by decide +kernel
theorem dX8_counts_2 : decode cX8_counts 2 = .ok (.iload_n 2, 1) := by decide +kernel
theorem dX8_counts_3 : decode cX8_counts 3 = .ok (.aload_n 0, 1) := by decide +kernel
theorem dX8_counts_4 : decode cX8_counts 4 = .ok (.getfield 7, 3) := by decide +kernel
theorem dX8_counts_7 : decode cX8_counts 7 = .ok (.iconst 0, 1) := by decide +kernel
theorem dX8_counts_8 : decode cX8_counts 8 = .ok (.iaload, 1) := by decide +kernel
theorem dX8_counts_9 : decode cX8_counts 9 = .ok (.if_icmp .ge 21, 3) := by decide +kernel
theorem dX8_counts_12 : decode cX8_counts 12 = .ok (.aload_n 0, 1) := by decide +kernel
theorem dX8_counts_13 : decode cX8_counts 13 = .ok (.getfield 7, 3) := by decide +kernel
theorem dX8_counts_16 : decode cX8_counts 16 = .ok (.bipush 6, 2) := by decide +kernel
theorem dX8_counts_18 : decode cX8_counts 18 = .ok (.dup2, 1) := by decide +kernel
theorem dX8_counts_19 : decode cX8_counts 19 = .ok (.iaload, 1) := by decide +kernel
theorem dX8_counts_20 : decode cX8_counts 20 = .ok (.iconst 1, 1) := by decide +kernel
theorem dX8_counts_21 : decode cX8_counts 21 = .ok (.iadd, 1) := by decide +kernel
theorem dX8_counts_22 : decode cX8_counts 22 = .ok (.iastore, 1) := by decide +kernel
theorem dX8_counts_23 : decode cX8_counts 23 = .ok (.iload_n 2, 1) := by decide +kernel
theorem dX8_counts_24 : decode cX8_counts 24 = .ok (.iconst 2, 1) := by decide +kernel
theorem dX8_counts_25 : decode cX8_counts 25 = .ok (.imul, 1) := by decide +kernel
theorem dX8_counts_26 : decode cX8_counts 26 = .ok (.istore_n 2, 1) := by decide +kernel
theorem dX8_counts_27 : decode cX8_counts 27 = .ok (.goto (-25), 3) := by decide +kernel
theorem dX8_counts_30 : decode cX8_counts 30 = .ok (.return_, 1) := by decide +kernel
theorem dX8_rebuilds_0 : decode cX8_rebuilds 0 = .ok (.aload_n 0, 1) := by decide +kernel
theorem dX8_rebuilds_1 : decode cX8_rebuilds 1 = .ok (.getfield 7, 3) := by decide +kernel
theorem dX8_rebuilds_4 : decode cX8_rebuilds 4 = .ok (.iconst 0, 1) := by decide +kernel
theorem dX8_rebuilds_5 : decode cX8_rebuilds 5 = .ok (.iaload, 1) := by decide +kernel
theorem dX8_rebuilds_6 : decode cX8_rebuilds 6 = .ok (.istore_n 2, 1) := by decide +kernel
theorem dX8_rebuilds_7 : decode cX8_rebuilds 7 = .ok (.aload_n 0, 1) := by decide +kernel
theorem dX8_rebuilds_8 : decode cX8_rebuilds 8 = .ok (.invokevirtual 119, 3) := by decide +kernel
theorem dX8_rebuilds_11 : decode cX8_rebuilds 11 = .ok (.iload_n 1, 1) := by decide +kernel
theorem dX8_rebuilds_12 : decode cX8_rebuilds 12 = .ok (.istore_n 3, 1) := by decide +kernel
theorem dX8_rebuilds_13 : decode cX8_rebuilds 13 = .ok (.iload_n 3, 1) := by decide +kernel
theorem dX8_rebuilds_14 : decode cX8_rebuilds 14 = .ok (.bipush 64, 2) := by decide +kernel
theorem dX8_rebuilds_16 : decode cX8_rebuilds 16 = .ok (.if_icmp .gt 25, 3) := by decide +kernel
theorem dX8_rebuilds_19 : decode cX8_rebuilds 19 = .ok (.aload_n 0, 1) := by decide +kernel
theorem dX8_rebuilds_20 : decode cX8_rebuilds 20 = .ok (.iload_n 3, 1) := by decide +kernel
theorem dX8_rebuilds_21 : decode cX8_rebuilds 21 = .ok (.invokevirtual 122, 3) := by decide +kernel
theorem dX8_rebuilds_24 : decode cX8_rebuilds 24 = .ok (.ifCond .eq 10, 3) := by decide +kernel
theorem dX8_rebuilds_27 : decode cX8_rebuilds 27 = .ok (.aload_n 0, 1) := by decide +kernel
theorem dX8_rebuilds_28 : decode cX8_rebuilds 28 = .ok (.iload_n 2, 1) := by decide +kernel
theorem dX8_rebuilds_29 : decode cX8_rebuilds 29 = .ok (.invokevirtual 125, 3) := by decide +kernel
theorem dX8_rebuilds_32 : decode cX8_rebuilds 32 = .ok (.iconst 1, 1) := by decide +kernel
theorem dX8_rebuilds_33 : decode cX8_rebuilds 33 = .ok (.ireturn, 1) := by decide +kernel
theorem dX8_rebuilds_34 : decode cX8_rebuilds 34 = .ok (.iload_n 3, 1) := by decide +kernel
theorem dX8_rebuilds_35 : decode cX8_rebuilds 35 = .ok (.iconst 2, 1) := by decide +kernel
theorem dX8_rebuilds_36 : decode cX8_rebuilds 36 = .ok (.imul, 1) := by decide +kernel
theorem dX8_rebuilds_37 : decode cX8_rebuilds 37 = .ok (.istore_n 3, 1) := by decide +kernel
theorem dX8_rebuilds_38 : decode cX8_rebuilds 38 = .ok (.goto (-25), 3) := by decide +kernel
theorem dX8_rebuilds_41 : decode cX8_rebuilds 41 = .ok (.iconst 0, 1) := by decide +kernel
theorem dX8_rebuilds_42 : decode cX8_rebuilds 42 = .ok (.ireturn, 1) := by decide +kernel
theorem dX8_adds_0 : decode cX8_adds 0 = .ok (.aload_n 0, 1) := by decide +kernel
theorem dX8_adds_1 : decode cX8_adds 1 = .ok (.getfield 7, 3) := by decide +kernel
theorem dX8_adds_4 : decode cX8_adds 4 = .ok (.iconst 0, 1) := by decide +kernel
theorem dX8_adds_5 : decode cX8_adds 5 = .ok (.iaload, 1) := by decide +kernel
theorem dX8_adds_6 : decode cX8_adds 6 = .ok (.istore_n 3, 1) := by decide +kernel
theorem dX8_adds_7 : decode cX8_adds 7 = .ok (.aload_n 0, 1) := by decide +kernel
theorem dX8_adds_8 : decode cX8_adds 8 = .ok (.iload_n 1, 1) := by decide +kernel
theorem dX8_adds_9 : decode cX8_adds 9 = .ok (.iload_n 2, 1) := by decide +kernel
theorem dX8_adds_10 : decode cX8_adds 10 = .ok (.invokevirtual 116, 3) := by decide +kernel
theorem dX8_adds_13 : decode cX8_adds 13 = .ok (.istore 4, 2) := by decide +kernel
theorem dX8_adds_15 : decode cX8_adds 15 = .ok (.iload 4, 2) := by decide +kernel
theorem dX8_adds_17 : decode cX8_adds 17 = .ok (.iconst (-1), 1) := by decide +kernel
theorem dX8_adds_18 : decode cX8_adds 18 = .ok (.if_icmp .ne 19, 3) := by decide +kernel
theorem dX8_adds_21 : decode cX8_adds 21 = .ok (.aload_n 0, 1) := by decide +kernel
theorem dX8_adds_22 : decode cX8_adds 22 = .ok (.aload_n 0, 1) := by decide +kernel
theorem dX8_adds_23 : decode cX8_adds 23 = .ok (.getfield 7, 3) := by decide +kernel
theorem dX8_adds_26 : decode cX8_adds 26 = .ok (.aload_n 0, 1) := by decide +kernel
theorem dX8_adds_27 : decode cX8_adds 27 = .ok (.getfield 19, 3) := by decide +kernel
theorem dX8_adds_30 : decode cX8_adds 30 = .ok (.invokevirtual 96, 3) := by decide +kernel
theorem dX8_adds_33 : decode cX8_adds 33 = .ok (.aload_n 0, 1) := by decide +kernel
theorem dX8_adds_34 : decode cX8_adds 34 = .ok (.invokevirtual 119, 3) := by decide +kernel
theorem dX8_adds_37 : decode cX8_adds 37 = .ok (.iconst 2, 1) := by decide +kernel
theorem dX8_adds_38 : decode cX8_adds 38 = .ok (.iload_n 3, 1) := by decide +kernel
theorem dX8_adds_39 : decode cX8_adds 39 = .ok (.imul, 1) := by decide +kernel
theorem dX8_adds_40 : decode cX8_adds 40 = .ok (.istore 5, 2) := by decide +kernel
theorem dX8_adds_42 : decode cX8_adds 42 = .ok (.iload 5, 2) := by decide +kernel
theorem dX8_adds_44 : decode cX8_adds 44 = .ok (.bipush 64, 2) := by decide +kernel
theorem dX8_adds_46 : decode cX8_adds 46 = .ok (.if_icmp .gt 39, 3) := by decide +kernel
theorem dX8_adds_49 : decode cX8_adds 49 = .ok (.iload 4, 2) := by decide +kernel
theorem dX8_adds_51 : decode cX8_adds 51 = .ok (.iconst (-1), 1) := by decide +kernel
theorem dX8_adds_52 : decode cX8_adds 52 = .ok (.if_icmp .ne 33, 3) := by decide +kernel
theorem dX8_adds_55 : decode cX8_adds 55 = .ok (.aload_n 0, 1) := by decide +kernel
theorem dX8_adds_56 : decode cX8_adds 56 = .ok (.iload 5, 2) := by decide +kernel
theorem dX8_adds_58 : decode cX8_adds 58 = .ok (.invokevirtual 122, 3) := by decide +kernel
theorem dX8_adds_61 : decode cX8_adds 61 = .ok (.ifCond .eq 12, 3) := by decide +kernel
theorem dX8_adds_64 : decode cX8_adds 64 = .ok (.aload_n 0, 1) := by decide +kernel
theorem dX8_adds_65 : decode cX8_adds 65 = .ok (.iload_n 1, 1) := by decide +kernel
theorem dX8_adds_66 : decode cX8_adds 66 = .ok (.iload_n 2, 1) := by decide +kernel
theorem dX8_adds_67 : decode cX8_adds 67 = .ok (.invokevirtual 116, 3) := by decide +kernel
theorem dX8_adds_70 : decode cX8_adds 70 = .ok (.goto 4, 3) := by decide +kernel
theorem dX8_adds_73 : decode cX8_adds 73 = .ok (.iconst (-1), 1) := by decide +kernel
theorem dX8_adds_74 : decode cX8_adds 74 = .ok (.istore 4, 2) := by decide +kernel
theorem dX8_adds_76 : decode cX8_adds 76 = .ok (.iload 5, 2) := by decide +kernel
theorem dX8_adds_78 : decode cX8_adds 78 = .ok (.iconst 2, 1) := by decide +kernel
theorem dX8_adds_79 : decode cX8_adds 79 = .ok (.imul, 1) := by decide +kernel
theorem dX8_adds_80 : decode cX8_adds 80 = .ok (.istore 5, 2) := by decide +kernel
theorem dX8_adds_82 : decode cX8_adds 82 = .ok (.goto (-40), 3) := by decide +kernel
theorem dX8_adds_85 : decode cX8_adds 85 = .ok (.iload 4, 2) := by decide +kernel
theorem dX8_adds_87 : decode cX8_adds 87 = .ok (.iconst (-1), 1) := by decide +kernel
theorem dX8_adds_88 : decode cX8_adds 88 = .ok (.if_icmp .ne 17, 3) := by decide +kernel
theorem dX8_adds_91 : decode cX8_adds 91 = .ok (.aload_n 0, 1) := by decide +kernel
theorem dX8_adds_92 : decode cX8_adds 92 = .ok (.aload_n 0, 1) := by decide +kernel
theorem dX8_adds_93 : decode cX8_adds 93 = .ok (.getfield 19, 3) := by decide +kernel
theorem dX8_adds_96 : decode cX8_adds 96 = .ok (.aload_n 0, 1) := by decide +kernel
theorem dX8_adds_97 : decode cX8_adds 97 = .ok (.getfield 7, 3) := by decide +kernel
theorem dX8_adds_100 : decode cX8_adds 100 = .ok (.invokevirtual 96, 3) := by decide +kernel
theorem dX8_adds_103 : decode cX8_adds 103 = .ok (.iconst (-1), 1) := by decide +kernel
theorem dX8_adds_104 : decode cX8_adds 104 = .ok (.ireturn, 1) := by decide +kernel
theorem dX8_adds_105 : decode cX8_adds 105 = .ok (.aload_n 0, 1) := by decide +kernel
theorem dX8_adds_106 : decode cX8_adds 106 = .ok (.iload_n 3, 1) := by decide +kernel
theorem dX8_adds_107 : decode cX8_adds 107 = .ok (.invokevirtual 125, 3) := by decide +kernel
theorem dX8_adds_110 : decode cX8_adds 110 = .ok (.aload_n 0, 1) := by decide +kernel
theorem dX8_adds_111 : decode cX8_adds 111 = .ok (.getfield 7, 3) := by decide +kernel
theorem dX8_adds_114 : decode cX8_adds 114 = .ok (.bipush 7, 2) := by decide +kernel
theorem dX8_adds_116 : decode cX8_adds 116 = .ok (.dup2, 1) := by decide +kernel
theorem dX8_adds_117 : decode cX8_adds 117 = .ok (.iaload, 1) := by decide +kernel
theorem dX8_adds_118 : decode cX8_adds 118 = .ok (.iconst 1, 1) := by decide +kernel
theorem dX8_adds_119 : decode cX8_adds 119 = .ok (.iadd, 1) := by decide +kernel
theorem dX8_adds_120 : decode cX8_adds 120 = .ok (.iastore, 1) := by decide +kernel
theorem dX8_adds_121 : decode cX8_adds 121 = .ok (.iload 4, 2) := by decide +kernel
theorem dX8_adds_123 : decode cX8_adds 123 = .ok (.ireturn, 1) := by decide +kernel
theorem dX8_whyOut_0 : decode cX8_whyOut 0 = .ok (.aload_n 0, 1) := by decide +kernel
theorem dX8_whyOut_1 : decode cX8_whyOut 1 = .ok (.iload_n 1, 1) := by decide +kernel
theorem dX8_whyOut_2 : decode cX8_whyOut 2 = .ok (.invokevirtual 129, 3) := by decide +kernel
theorem dX8_whyOut_5 : decode cX8_whyOut 5 = .ok (.iconst (-1), 1) := by decide +kernel
theorem dX8_whyOut_6 : decode cX8_whyOut 6 = .ok (.if_icmp .eq 5, 3) := by decide +kernel
theorem dX8_whyOut_9 : decode cX8_whyOut 9 = .ok (.iconst 1, 1) := by decide +kernel
theorem dX8_whyOut_10 : decode cX8_whyOut 10 = .ok (.ireturn, 1) := by decide +kernel
theorem dX8_whyOut_11 : decode cX8_whyOut 11 = .ok (.aload_n 0, 1) := by decide +kernel
theorem dX8_whyOut_12 : decode cX8_whyOut 12 = .ok (.aload_n 0, 1) := by decide +kernel
theorem dX8_whyOut_13 : decode cX8_whyOut 13 = .ok (.getfield 7, 3) := by decide +kernel
theorem dX8_whyOut_16 : decode cX8_whyOut 16 = .ok (.aload_n 0, 1) := by decide +kernel
theorem dX8_whyOut_17 : decode cX8_whyOut 17 = .ok (.getfield 16, 3) := by decide +kernel
theorem dX8_whyOut_20 : decode cX8_whyOut 20 = .ok (.invokevirtual 96, 3) := by decide +kernel
theorem dX8_whyOut_23 : decode cX8_whyOut 23 = .ok (.aload_n 0, 1) := by decide +kernel
theorem dX8_whyOut_24 : decode cX8_whyOut 24 = .ok (.iload_n 1, 1) := by decide +kernel
theorem dX8_whyOut_25 : decode cX8_whyOut 25 = .ok (.iconst 0, 1) := by decide +kernel
theorem dX8_whyOut_26 : decode cX8_whyOut 26 = .ok (.invokevirtual 132, 3) := by decide +kernel
theorem dX8_whyOut_29 : decode cX8_whyOut 29 = .ok (.istore_n 2, 1) := by decide +kernel
theorem dX8_whyOut_30 : decode cX8_whyOut 30 = .ok (.aload_n 0, 1) := by decide +kernel
theorem dX8_whyOut_31 : decode cX8_whyOut 31 = .ok (.aload_n 0, 1) := by decide +kernel
theorem dX8_whyOut_32 : decode cX8_whyOut 32 = .ok (.getfield 16, 3) := by decide +kernel
theorem dX8_whyOut_35 : decode cX8_whyOut 35 = .ok (.aload_n 0, 1) := by decide +kernel
theorem dX8_whyOut_36 : decode cX8_whyOut 36 = .ok (.getfield 7, 3) := by decide +kernel
theorem dX8_whyOut_39 : decode cX8_whyOut 39 = .ok (.invokevirtual 96, 3) := by decide +kernel
theorem dX8_whyOut_42 : decode cX8_whyOut 42 = .ok (.iload_n 2, 1) := by decide +kernel
theorem dX8_whyOut_43 : decode cX8_whyOut 43 = .ok (.iconst (-1), 1) := by decide +kernel
theorem dX8_whyOut_44 : decode cX8_whyOut 44 = .ok (.if_icmp .ne 7, 3) := by decide +kernel
theorem dX8_whyOut_47 : decode cX8_whyOut 47 = .ok (.iconst 2, 1) := by decide +kernel
theorem dX8_whyOut_48 : decode cX8_whyOut 48 = .ok (.goto 4, 3) := by decide +kernel
theorem dX8_whyOut_51 : decode cX8_whyOut 51 = .ok (.iconst 0, 1) := by decide +kernel
theorem dX8_whyOut_52 : decode cX8_whyOut 52 = .ok (.ireturn, 1) := by decide +kernel
theorem dX8_puts_0 : decode cX8_puts 0 = .ok (.aload_n 0, 1) := by decide +kernel
theorem dX8_puts_1 : decode cX8_puts 1 = .ok (.iload_n 1, 1) := by decide +kernel
theorem dX8_puts_2 : decode cX8_puts 2 = .ok (.invokevirtual 129, 3) := by decide +kernel
theorem dX8_puts_5 : decode cX8_puts 5 = .ok (.istore_n 3, 1) := by decide +kernel
theorem dX8_puts_6 : decode cX8_puts 6 = .ok (.iload_n 3, 1) := by decide +kernel
theorem dX8_puts_7 : decode cX8_puts 7 = .ok (.iconst (-1), 1) := by decide +kernel
theorem dX8_puts_8 : decode cX8_puts 8 = .ok (.if_icmp .ne 12, 3) := by decide +kernel
theorem dX8_puts_11 : decode cX8_puts 11 = .ok (.aload_n 0, 1) := by decide +kernel
theorem dX8_puts_12 : decode cX8_puts 12 = .ok (.iload_n 1, 1) := by decide +kernel
theorem dX8_puts_13 : decode cX8_puts 13 = .ok (.iload_n 2, 1) := by decide +kernel
theorem dX8_puts_14 : decode cX8_puts 14 = .ok (.invokevirtual 132, 3) := by decide +kernel
theorem dX8_puts_17 : decode cX8_puts 17 = .ok (.pop, 1) := by decide +kernel
theorem dX8_puts_18 : decode cX8_puts 18 = .ok (.iconst (-1), 1) := by decide +kernel
theorem dX8_puts_19 : decode cX8_puts 19 = .ok (.ireturn, 1) := by decide +kernel
theorem dX8_puts_20 : decode cX8_puts 20 = .ok (.aload_n 0, 1) := by decide +kernel
theorem dX8_puts_21 : decode cX8_puts 21 = .ok (.getfield 7, 3) := by decide +kernel
theorem dX8_puts_24 : decode cX8_puts 24 = .ok (.bipush 73, 2) := by decide +kernel
theorem dX8_puts_26 : decode cX8_puts 26 = .ok (.iload_n 3, 1) := by decide +kernel
theorem dX8_puts_27 : decode cX8_puts 27 = .ok (.iadd, 1) := by decide +kernel
theorem dX8_puts_28 : decode cX8_puts 28 = .ok (.iaload, 1) := by decide +kernel
theorem dX8_puts_29 : decode cX8_puts 29 = .ok (.istore 4, 2) := by decide +kernel
theorem dX8_puts_31 : decode cX8_puts 31 = .ok (.aload_n 0, 1) := by decide +kernel
theorem dX8_puts_32 : decode cX8_puts 32 = .ok (.getfield 7, 3) := by decide +kernel
theorem dX8_puts_35 : decode cX8_puts 35 = .ok (.bipush 73, 2) := by decide +kernel
theorem dX8_puts_37 : decode cX8_puts 37 = .ok (.iload_n 3, 1) := by decide +kernel
theorem dX8_puts_38 : decode cX8_puts 38 = .ok (.iadd, 1) := by decide +kernel
theorem dX8_puts_39 : decode cX8_puts 39 = .ok (.iload_n 2, 1) := by decide +kernel
theorem dX8_puts_40 : decode cX8_puts 40 = .ok (.iastore, 1) := by decide +kernel
theorem dX8_puts_41 : decode cX8_puts 41 = .ok (.iload 4, 2) := by decide +kernel
theorem dX8_puts_43 : decode cX8_puts 43 = .ok (.ireturn, 1) := by decide +kernel
theorem dX8_rows_0 : decode cX8_rows 0 = .ok (.iconst 0, 1) := by decide +kernel
theorem dX8_rows_1 : decode cX8_rows 1 = .ok (.istore 4, 2) := by decide +kernel
theorem dX8_rows_3 : decode cX8_rows 3 = .ok (.iconst 0, 1) := by decide +kernel
theorem dX8_rows_4 : decode cX8_rows 4 = .ok (.istore 5, 2) := by decide +kernel
theorem dX8_rows_6 : decode cX8_rows 6 = .ok (.iload 5, 2) := by decide +kernel
theorem dX8_rows_8 : decode cX8_rows 8 = .ok (.iload_n 3, 1) := by decide +kernel
theorem dX8_rows_9 : decode cX8_rows 9 = .ok (.if_icmp .ge 43, 3) := by decide +kernel
theorem dX8_rows_12 : decode cX8_rows 12 = .ok (.aload_n 0, 1) := by decide +kernel
theorem dX8_rows_13 : decode cX8_rows 13 = .ok (.iload_n 1, 1) := by decide +kernel
theorem dX8_rows_14 : decode cX8_rows 14 = .ok (.iload 5, 2) := by decide +kernel
theorem dX8_rows_16 : decode cX8_rows 16 = .ok (.iload_n 2, 1) := by decide +kernel
theorem dX8_rows_17 : decode cX8_rows 17 = .ok (.imul, 1) := by decide +kernel
theorem dX8_rows_18 : decode cX8_rows 18 = .ok (.iadd, 1) := by decide +kernel
theorem dX8_rows_19 : decode cX8_rows 19 = .ok (.invokevirtual 129, 3) := by decide +kernel
theorem dX8_rows_22 : decode cX8_rows 22 = .ok (.iconst (-1), 1) := by decide +kernel
theorem dX8_rows_23 : decode cX8_rows 23 = .ok (.if_icmp .ne 23, 3) := by decide +kernel
theorem dX8_rows_26 : decode cX8_rows 26 = .ok (.aload_n 0, 1) := by decide +kernel
theorem dX8_rows_27 : decode cX8_rows 27 = .ok (.iload_n 1, 1) := by decide +kernel
theorem dX8_rows_28 : decode cX8_rows 28 = .ok (.iload 5, 2) := by decide +kernel
theorem dX8_rows_30 : decode cX8_rows 30 = .ok (.iload_n 2, 1) := by decide +kernel
theorem dX8_rows_31 : decode cX8_rows 31 = .ok (.imul, 1) := by decide +kernel
theorem dX8_rows_32 : decode cX8_rows 32 = .ok (.iadd, 1) := by decide +kernel
theorem dX8_rows_33 : decode cX8_rows 33 = .ok (.iconst 0, 1) := by decide +kernel
theorem dX8_rows_34 : decode cX8_rows 34 = .ok (.invokevirtual 132, 3) := by decide +kernel
theorem dX8_rows_37 : decode cX8_rows 37 = .ok (.iconst (-1), 1) := by decide +kernel
theorem dX8_rows_38 : decode cX8_rows 38 = .ok (.if_icmp .ne 5, 3) := by decide +kernel
theorem dX8_rows_41 : decode cX8_rows 41 = .ok (.iconst (-1), 1) := by decide +kernel
theorem dX8_rows_42 : decode cX8_rows 42 = .ok (.ireturn, 1) := by decide +kernel
theorem dX8_rows_43 : decode cX8_rows 43 = .ok (.iinc 4 1, 3) := by decide +kernel
theorem dX8_rows_46 : decode cX8_rows 46 = .ok (.iinc 5 1, 3) := by decide +kernel
theorem dX8_rows_49 : decode cX8_rows 49 = .ok (.goto (-43), 3) := by decide +kernel
theorem dX8_rows_52 : decode cX8_rows 52 = .ok (.iload 4, 2) := by decide +kernel
theorem dX8_rows_54 : decode cX8_rows 54 = .ok (.ireturn, 1) := by decide +kernel
theorem dX8_canRow_0 : decode cX8_canRow 0 = .ok (.aload_n 0, 1) := by decide +kernel
theorem dX8_canRow_1 : decode cX8_canRow 1 = .ok (.aload_n 0, 1) := by decide +kernel
theorem dX8_canRow_2 : decode cX8_canRow 2 = .ok (.getfield 7, 3) := by decide +kernel
theorem dX8_canRow_5 : decode cX8_canRow 5 = .ok (.aload_n 0, 1) := by decide +kernel
theorem dX8_canRow_6 : decode cX8_canRow 6 = .ok (.getfield 16, 3) := by decide +kernel
theorem dX8_canRow_9 : decode cX8_canRow 9 = .ok (.invokevirtual 96, 3) := by decide +kernel
theorem dX8_canRow_12 : decode cX8_canRow 12 = .ok (.aload_n 0, 1) := by decide +kernel
theorem dX8_canRow_13 : decode cX8_canRow 13 = .ok (.iload_n 1, 1) := by decide +kernel
theorem dX8_canRow_14 : decode cX8_canRow 14 = .ok (.iload_n 2, 1) := by decide +kernel
theorem dX8_canRow_15 : decode cX8_canRow 15 = .ok (.iload_n 3, 1) := by decide +kernel
theorem dX8_canRow_16 : decode cX8_canRow 16 = .ok (.invokevirtual 135, 3) := by decide +kernel
theorem dX8_canRow_19 : decode cX8_canRow 19 = .ok (.iconst (-1), 1) := by decide +kernel
theorem dX8_canRow_20 : decode cX8_canRow 20 = .ok (.if_icmp .eq 7, 3) := by decide +kernel
theorem dX8_canRow_23 : decode cX8_canRow 23 = .ok (.iconst 1, 1) := by decide +kernel
theorem dX8_canRow_24 : decode cX8_canRow 24 = .ok (.goto 4, 3) := by decide +kernel
theorem dX8_canRow_27 : decode cX8_canRow 27 = .ok (.iconst 0, 1) := by decide +kernel
theorem dX8_canRow_28 : decode cX8_canRow 28 = .ok (.istore 4, 2) := by decide +kernel
theorem dX8_canRow_30 : decode cX8_canRow 30 = .ok (.aload_n 0, 1) := by decide +kernel
theorem dX8_canRow_31 : decode cX8_canRow 31 = .ok (.aload_n 0, 1) := by decide +kernel
theorem dX8_canRow_32 : decode cX8_canRow 32 = .ok (.getfield 16, 3) := by decide +kernel
theorem dX8_canRow_35 : decode cX8_canRow 35 = .ok (.aload_n 0, 1) := by decide +kernel
theorem dX8_canRow_36 : decode cX8_canRow 36 = .ok (.getfield 7, 3) := by decide +kernel
theorem dX8_canRow_39 : decode cX8_canRow 39 = .ok (.invokevirtual 96, 3) := by decide +kernel
theorem dX8_canRow_42 : decode cX8_canRow 42 = .ok (.iload 4, 2) := by decide +kernel
theorem dX8_canRow_44 : decode cX8_canRow 44 = .ok (.ireturn, 1) := by decide +kernel
theorem dX8_pulled_0 : decode cX8_pulled 0 = .ok (.aload_n 0, 1) := by decide +kernel
theorem dX8_pulled_1 : decode cX8_pulled 1 = .ok (.getfield 7, 3) := by decide +kernel
theorem dX8_pulled_4 : decode cX8_pulled 4 = .ok (.iconst 1, 1) := by decide +kernel
theorem dX8_pulled_5 : decode cX8_pulled 5 = .ok (.iaload, 1) := by decide +kernel
theorem dX8_pulled_6 : decode cX8_pulled 6 = .ok (.iconst 1, 1) := by decide +kernel
theorem dX8_pulled_7 : decode cX8_pulled 7 = .ok (.isub, 1) := by decide +kernel
theorem dX8_pulled_8 : decode cX8_pulled 8 = .ok (.istore_n 2, 1) := by decide +kernel
theorem dX8_pulled_9 : decode cX8_pulled 9 = .ok (.iload_n 2, 1) := by decide +kernel
theorem dX8_pulled_10 : decode cX8_pulled 10 = .ok (.ifCond .lt 62, 3) := by decide +kernel
theorem dX8_pulled_13 : decode cX8_pulled 13 = .ok (.aload_n 0, 1) := by decide +kernel
theorem dX8_pulled_14 : decode cX8_pulled 14 = .ok (.iload_n 1, 1) := by decide +kernel
theorem dX8_pulled_15 : decode cX8_pulled 15 = .ok (.iload_n 2, 1) := by decide +kernel
theorem dX8_pulled_16 : decode cX8_pulled 16 = .ok (.ineg, 1) := by decide +kernel
theorem dX8_pulled_17 : decode cX8_pulled 17 = .ok (.invokevirtual 86, 3) := by decide +kernel
theorem dX8_pulled_20 : decode cX8_pulled 20 = .ok (.istore_n 3, 1) := by decide +kernel
theorem dX8_pulled_21 : decode cX8_pulled 21 = .ok (.aload_n 0, 1) := by decide +kernel
theorem dX8_pulled_22 : decode cX8_pulled 22 = .ok (.getfield 7, 3) := by decide +kernel
theorem dX8_pulled_25 : decode cX8_pulled 25 = .ok (.iconst 1, 1) := by decide +kernel
theorem dX8_pulled_26 : decode cX8_pulled 26 = .ok (.iaload, 1) := by decide +kernel
theorem dX8_pulled_27 : decode cX8_pulled 27 = .ok (.iconst 1, 1) := by decide +kernel
theorem dX8_pulled_28 : decode cX8_pulled 28 = .ok (.isub, 1) := by decide +kernel
theorem dX8_pulled_29 : decode cX8_pulled 29 = .ok (.istore 4, 2) := by decide +kernel
theorem dX8_pulled_31 : decode cX8_pulled 31 = .ok (.iload 4, 2) := by decide +kernel
theorem dX8_pulled_33 : decode cX8_pulled 33 = .ok (.iload_n 2, 1) := by decide +kernel
theorem dX8_pulled_34 : decode cX8_pulled 34 = .ok (.if_icmp .le 32, 3) := by decide +kernel
theorem dX8_pulled_37 : decode cX8_pulled 37 = .ok (.aload_n 0, 1) := by decide +kernel
theorem dX8_pulled_38 : decode cX8_pulled 38 = .ok (.aload_n 0, 1) := by decide +kernel
theorem dX8_pulled_39 : decode cX8_pulled 39 = .ok (.iload_n 3, 1) := by decide +kernel
theorem dX8_pulled_40 : decode cX8_pulled 40 = .ok (.iload 4, 2) := by decide +kernel
theorem dX8_pulled_42 : decode cX8_pulled 42 = .ok (.invokevirtual 86, 3) := by decide +kernel
theorem dX8_pulled_45 : decode cX8_pulled 45 = .ok (.iload_n 3, 1) := by decide +kernel
theorem dX8_pulled_46 : decode cX8_pulled 46 = .ok (.invokevirtual 89, 3) := by decide +kernel
theorem dX8_pulled_49 : decode cX8_pulled 49 = .ok (.ifCond .eq 11, 3) := by decide +kernel
theorem dX8_pulled_52 : decode cX8_pulled 52 = .ok (.aload_n 0, 1) := by decide +kernel
theorem dX8_pulled_53 : decode cX8_pulled 53 = .ok (.iload_n 3, 1) := by decide +kernel
theorem dX8_pulled_54 : decode cX8_pulled 54 = .ok (.iload 4, 2) := by decide +kernel
theorem dX8_pulled_56 : decode cX8_pulled 56 = .ok (.invokevirtual 86, 3) := by decide +kernel
theorem dX8_pulled_59 : decode cX8_pulled 59 = .ok (.ireturn, 1) := by decide +kernel
theorem dX8_pulled_60 : decode cX8_pulled 60 = .ok (.iinc 4 (-1), 3) := by decide +kernel
theorem dX8_pulled_63 : decode cX8_pulled 63 = .ok (.goto (-32), 3) := by decide +kernel
theorem dX8_pulled_66 : decode cX8_pulled 66 = .ok (.iinc 2 (-1), 3) := by decide +kernel
theorem dX8_pulled_69 : decode cX8_pulled 69 = .ok (.goto (-60), 3) := by decide +kernel
theorem dX8_pulled_72 : decode cX8_pulled 72 = .ok (.iconst (-1), 1) := by decide +kernel
theorem dX8_pulled_73 : decode cX8_pulled 73 = .ok (.ireturn, 1) := by decide +kernel
theorem dX8_takesOut_0 : decode cX8_takesOut 0 = .ok (.aload_n 0, 1) := by decide +kernel
theorem dX8_takesOut_1 : decode cX8_takesOut 1 = .ok (.iload_n 1, 1) := by decide +kernel
theorem dX8_takesOut_2 : decode cX8_takesOut 2 = .ok (.invokevirtual 129, 3) := by decide +kernel
theorem dX8_takesOut_5 : decode cX8_takesOut 5 = .ok (.istore_n 2, 1) := by decide +kernel
theorem dX8_takesOut_6 : decode cX8_takesOut 6 = .ok (.aload_n 0, 1) := by decide +kernel
theorem dX8_takesOut_7 : decode cX8_takesOut 7 = .ok (.getfield 7, 3) := by decide +kernel
theorem dX8_takesOut_10 : decode cX8_takesOut 10 = .ok (.bipush 73, 2) := by decide +kernel
theorem dX8_takesOut_12 : decode cX8_takesOut 12 = .ok (.iload_n 2, 1) := by decide +kernel
theorem dX8_takesOut_13 : decode cX8_takesOut 13 = .ok (.iadd, 1) := by decide +kernel
theorem dX8_takesOut_14 : decode cX8_takesOut 14 = .ok (.iaload, 1) := by decide +kernel
theorem dX8_takesOut_15 : decode cX8_takesOut 15 = .ok (.istore_n 3, 1) := by decide +kernel
theorem dX8_takesOut_16 : decode cX8_takesOut 16 = .ok (.aload_n 0, 1) := by decide +kernel
theorem dX8_takesOut_17 : decode cX8_takesOut 17 = .ok (.getfield 7, 3) := by decide +kernel
theorem dX8_takesOut_20 : decode cX8_takesOut 20 = .ok (.bipush 9, 2) := by decide +kernel
theorem dX8_takesOut_22 : decode cX8_takesOut 22 = .ok (.iload_n 2, 1) := by decide +kernel
theorem dX8_takesOut_23 : decode cX8_takesOut 23 = .ok (.iadd, 1) := by decide +kernel
theorem dX8_takesOut_24 : decode cX8_takesOut 24 = .ok (.iconst 0, 1) := by decide +kernel
theorem dX8_takesOut_25 : decode cX8_takesOut 25 = .ok (.iastore, 1) := by decide +kernel
theorem dX8_takesOut_26 : decode cX8_takesOut 26 = .ok (.aload_n 0, 1) := by decide +kernel
theorem dX8_takesOut_27 : decode cX8_takesOut 27 = .ok (.getfield 7, 3) := by decide +kernel
theorem dX8_takesOut_30 : decode cX8_takesOut 30 = .ok (.bipush 73, 2) := by decide +kernel
theorem dX8_takesOut_32 : decode cX8_takesOut 32 = .ok (.iload_n 2, 1) := by decide +kernel
theorem dX8_takesOut_33 : decode cX8_takesOut 33 = .ok (.iadd, 1) := by decide +kernel
theorem dX8_takesOut_34 : decode cX8_takesOut 34 = .ok (.iconst 0, 1) := by decide +kernel
theorem dX8_takesOut_35 : decode cX8_takesOut 35 = .ok (.iastore, 1) := by decide +kernel
theorem dX8_takesOut_36 : decode cX8_takesOut 36 = .ok (.aload_n 0, 1) := by decide +kernel
theorem dX8_takesOut_37 : decode cX8_takesOut 37 = .ok (.getfield 7, 3) := by decide +kernel
theorem dX8_takesOut_40 : decode cX8_takesOut 40 = .ok (.bipush 8, 2) := by decide +kernel
theorem dX8_takesOut_42 : decode cX8_takesOut 42 = .ok (.dup2, 1) := by decide +kernel
theorem dX8_takesOut_43 : decode cX8_takesOut 43 = .ok (.iaload, 1) := by decide +kernel
theorem dX8_takesOut_44 : decode cX8_takesOut 44 = .ok (.iconst 1, 1) := by decide +kernel
theorem dX8_takesOut_45 : decode cX8_takesOut 45 = .ok (.iadd, 1) := by decide +kernel
theorem dX8_takesOut_46 : decode cX8_takesOut 46 = .ok (.iastore, 1) := by decide +kernel
theorem dX8_takesOut_47 : decode cX8_takesOut 47 = .ok (.aload_n 0, 1) := by decide +kernel
theorem dX8_takesOut_48 : decode cX8_takesOut 48 = .ok (.getfield 7, 3) := by decide +kernel
theorem dX8_takesOut_51 : decode cX8_takesOut 51 = .ok (.iconst 3, 1) := by decide +kernel
theorem dX8_takesOut_52 : decode cX8_takesOut 52 = .ok (.iaload, 1) := by decide +kernel
theorem dX8_takesOut_53 : decode cX8_takesOut 53 = .ok (.iconst 1, 1) := by decide +kernel
theorem dX8_takesOut_54 : decode cX8_takesOut 54 = .ok (.if_icmp .ne 11, 3) := by decide +kernel
theorem dX8_takesOut_57 : decode cX8_takesOut 57 = .ok (.aload_n 0, 1) := by decide +kernel
theorem dX8_takesOut_58 : decode cX8_takesOut 58 = .ok (.iload_n 2, 1) := by decide +kernel
theorem dX8_takesOut_59 : decode cX8_takesOut 59 = .ok (.invokevirtual 139, 3) := by decide +kernel
theorem dX8_takesOut_62 : decode cX8_takesOut 62 = .ok (.goto 4, 3) := by decide +kernel
theorem dX8_takesOut_65 : decode cX8_takesOut 65 = .ok (.iconst (-1), 1) := by decide +kernel
theorem dX8_takesOut_66 : decode cX8_takesOut 66 = .ok (.istore 4, 2) := by decide +kernel
theorem dX8_takesOut_68 : decode cX8_takesOut 68 = .ok (.iload 4, 2) := by decide +kernel
theorem dX8_takesOut_70 : decode cX8_takesOut 70 = .ok (.iconst (-1), 1) := by decide +kernel
theorem dX8_takesOut_71 : decode cX8_takesOut 71 = .ok (.if_icmp .eq 33, 3) := by decide +kernel
theorem dX8_takesOut_74 : decode cX8_takesOut 74 = .ok (.aload_n 0, 1) := by decide +kernel
theorem dX8_takesOut_75 : decode cX8_takesOut 75 = .ok (.iload 4, 2) := by decide +kernel
theorem dX8_takesOut_77 : decode cX8_takesOut 77 = .ok (.iload_n 2, 1) := by decide +kernel
theorem dX8_takesOut_78 : decode cX8_takesOut 78 = .ok (.invokevirtual 106, 3) := by decide +kernel
theorem dX8_takesOut_81 : decode cX8_takesOut 81 = .ok (.aload_n 0, 1) := by decide +kernel
theorem dX8_takesOut_82 : decode cX8_takesOut 82 = .ok (.getfield 7, 3) := by decide +kernel
theorem dX8_takesOut_85 : decode cX8_takesOut 85 = .ok (.iconst 5, 1) := by decide +kernel
theorem dX8_takesOut_86 : decode cX8_takesOut 86 = .ok (.dup2, 1) := by decide +kernel
theorem dX8_takesOut_87 : decode cX8_takesOut 87 = .ok (.iaload, 1) := by decide +kernel
theorem dX8_takesOut_88 : decode cX8_takesOut 88 = .ok (.iconst 1, 1) := by decide +kernel
theorem dX8_takesOut_89 : decode cX8_takesOut 89 = .ok (.iadd, 1) := by decide +kernel
theorem dX8_takesOut_90 : decode cX8_takesOut 90 = .ok (.iastore, 1) := by decide +kernel
theorem dX8_takesOut_91 : decode cX8_takesOut 91 = .ok (.iload 4, 2) := by decide +kernel
theorem dX8_takesOut_93 : decode cX8_takesOut 93 = .ok (.istore_n 2, 1) := by decide +kernel
theorem dX8_takesOut_94 : decode cX8_takesOut 94 = .ok (.aload_n 0, 1) := by decide +kernel
theorem dX8_takesOut_95 : decode cX8_takesOut 95 = .ok (.iload_n 2, 1) := by decide +kernel
theorem dX8_takesOut_96 : decode cX8_takesOut 96 = .ok (.invokevirtual 139, 3) := by decide +kernel
theorem dX8_takesOut_99 : decode cX8_takesOut 99 = .ok (.istore 4, 2) := by decide +kernel
theorem dX8_takesOut_101 : decode cX8_takesOut 101 = .ok (.goto (-33), 3) := by decide +kernel
theorem dX8_takesOut_104 : decode cX8_takesOut 104 = .ok (.iload_n 3, 1) := by decide +kernel
theorem dX8_takesOut_105 : decode cX8_takesOut 105 = .ok (.ireturn, 1) := by decide +kernel
theorem dX8_resets_0 : decode cX8_resets 0 = .ok (.aload_n 0, 1) := by decide +kernel
theorem dX8_resets_1 : decode cX8_resets 1 = .ok (.getfield 7, 3) := by decide +kernel
theorem dX8_resets_4 : decode cX8_resets 4 = .ok (.iload_n 1, 1) := by decide +kernel
theorem dX8_resets_5 : decode cX8_resets 5 = .ok (.iload_n 2, 1) := by decide +kernel
theorem dX8_resets_6 : decode cX8_resets 6 = .ok (.iastore, 1) := by decide +kernel
theorem dX8_resets_7 : decode cX8_resets 7 = .ok (.aload_n 0, 1) := by decide +kernel
theorem dX8_resets_8 : decode cX8_resets 8 = .ok (.aload_n 0, 1) := by decide +kernel
theorem dX8_resets_9 : decode cX8_resets 9 = .ok (.getfield 7, 3) := by decide +kernel
theorem dX8_resets_12 : decode cX8_resets 12 = .ok (.iconst 0, 1) := by decide +kernel
theorem dX8_resets_13 : decode cX8_resets 13 = .ok (.iaload, 1) := by decide +kernel
theorem dX8_resets_14 : decode cX8_resets 14 = .ok (.invokevirtual 142, 3) := by decide +kernel
theorem dX8_resets_17 : decode cX8_resets 17 = .ok (.ireturn, 1) := by decide +kernel
theorem dX8_canReset_0 : decode cX8_canReset 0 = .ok (.aload_n 0, 1) := by decide +kernel
theorem dX8_canReset_1 : decode cX8_canReset 1 = .ok (.aload_n 0, 1) := by decide +kernel
theorem dX8_canReset_2 : decode cX8_canReset 2 = .ok (.getfield 7, 3) := by decide +kernel
theorem dX8_canReset_5 : decode cX8_canReset 5 = .ok (.aload_n 0, 1) := by decide +kernel
theorem dX8_canReset_6 : decode cX8_canReset 6 = .ok (.getfield 16, 3) := by decide +kernel
theorem dX8_canReset_9 : decode cX8_canReset 9 = .ok (.invokevirtual 96, 3) := by decide +kernel
theorem dX8_canReset_12 : decode cX8_canReset 12 = .ok (.aload_n 0, 1) := by decide +kernel
theorem dX8_canReset_13 : decode cX8_canReset 13 = .ok (.iload_n 1, 1) := by decide +kernel
theorem dX8_canReset_14 : decode cX8_canReset 14 = .ok (.iload_n 2, 1) := by decide +kernel
theorem dX8_canReset_15 : decode cX8_canReset 15 = .ok (.invokevirtual 145, 3) := by decide +kernel
theorem dX8_canReset_18 : decode cX8_canReset 18 = .ok (.istore_n 3, 1) := by decide +kernel
theorem dX8_canReset_19 : decode cX8_canReset 19 = .ok (.aload_n 0, 1) := by decide +kernel
theorem dX8_canReset_20 : decode cX8_canReset 20 = .ok (.aload_n 0, 1) := by decide +kernel
theorem dX8_canReset_21 : decode cX8_canReset 21 = .ok (.getfield 16, 3) := by decide +kernel
theorem dX8_canReset_24 : decode cX8_canReset 24 = .ok (.aload_n 0, 1) := by decide +kernel
theorem dX8_canReset_25 : decode cX8_canReset 25 = .ok (.getfield 7, 3) := by decide +kernel
theorem dX8_canReset_28 : decode cX8_canReset 28 = .ok (.invokevirtual 96, 3) := by decide +kernel
theorem dX8_canReset_31 : decode cX8_canReset 31 = .ok (.iload_n 3, 1) := by decide +kernel
theorem dX8_canReset_32 : decode cX8_canReset 32 = .ok (.ireturn, 1) := by decide +kernel
theorem dX8_canGrow_0 : decode cX8_canGrow 0 = .ok (.aload_n 0, 1) := by decide +kernel
theorem dX8_canGrow_1 : decode cX8_canGrow 1 = .ok (.aload_n 0, 1) := by decide +kernel
theorem dX8_canGrow_2 : decode cX8_canGrow 2 = .ok (.getfield 7, 3) := by decide +kernel
theorem dX8_canGrow_5 : decode cX8_canGrow 5 = .ok (.aload_n 0, 1) := by decide +kernel
theorem dX8_canGrow_6 : decode cX8_canGrow 6 = .ok (.getfield 16, 3) := by decide +kernel
theorem dX8_canGrow_9 : decode cX8_canGrow 9 = .ok (.invokevirtual 96, 3) := by decide +kernel
theorem dX8_canGrow_12 : decode cX8_canGrow 12 = .ok (.aload_n 0, 1) := by decide +kernel
theorem dX8_canGrow_13 : decode cX8_canGrow 13 = .ok (.iconst 2, 1) := by decide +kernel
theorem dX8_canGrow_14 : decode cX8_canGrow 14 = .ok (.aload_n 0, 1) := by decide +kernel
theorem dX8_canGrow_15 : decode cX8_canGrow 15 = .ok (.getfield 7, 3) := by decide +kernel
theorem dX8_canGrow_18 : decode cX8_canGrow 18 = .ok (.iconst 0, 1) := by decide +kernel
theorem dX8_canGrow_19 : decode cX8_canGrow 19 = .ok (.iaload, 1) := by decide +kernel
theorem dX8_canGrow_20 : decode cX8_canGrow 20 = .ok (.imul, 1) := by decide +kernel
theorem dX8_canGrow_21 : decode cX8_canGrow 21 = .ok (.invokevirtual 142, 3) := by decide +kernel
theorem dX8_canGrow_24 : decode cX8_canGrow 24 = .ok (.istore_n 1, 1) := by decide +kernel
theorem dX8_canGrow_25 : decode cX8_canGrow 25 = .ok (.aload_n 0, 1) := by decide +kernel
theorem dX8_canGrow_26 : decode cX8_canGrow 26 = .ok (.aload_n 0, 1) := by decide +kernel
theorem dX8_canGrow_27 : decode cX8_canGrow 27 = .ok (.getfield 16, 3) := by decide +kernel
theorem dX8_canGrow_30 : decode cX8_canGrow 30 = .ok (.aload_n 0, 1) := by decide +kernel
theorem dX8_canGrow_31 : decode cX8_canGrow 31 = .ok (.getfield 7, 3) := by decide +kernel
theorem dX8_canGrow_34 : decode cX8_canGrow 34 = .ok (.invokevirtual 96, 3) := by decide +kernel
theorem dX8_canGrow_37 : decode cX8_canGrow 37 = .ok (.iload_n 1, 1) := by decide +kernel
theorem dX8_canGrow_38 : decode cX8_canGrow 38 = .ok (.ireturn, 1) := by decide +kernel
theorem dX8_grows_0 : decode cX8_grows 0 = .ok (.aload_n 0, 1) := by decide +kernel
theorem dX8_grows_1 : decode cX8_grows 1 = .ok (.iconst 2, 1) := by decide +kernel
theorem dX8_grows_2 : decode cX8_grows 2 = .ok (.aload_n 0, 1) := by decide +kernel
theorem dX8_grows_3 : decode cX8_grows 3 = .ok (.getfield 7, 3) := by decide +kernel
theorem dX8_grows_6 : decode cX8_grows 6 = .ok (.iconst 0, 1) := by decide +kernel
theorem dX8_grows_7 : decode cX8_grows 7 = .ok (.iaload, 1) := by decide +kernel
theorem dX8_grows_8 : decode cX8_grows 8 = .ok (.imul, 1) := by decide +kernel
theorem dX8_grows_9 : decode cX8_grows 9 = .ok (.invokevirtual 142, 3) := by decide +kernel
theorem dX8_grows_12 : decode cX8_grows 12 = .ok (.pop, 1) := by decide +kernel
theorem dX8_grows_13 : decode cX8_grows 13 = .ok (.aload_n 0, 1) := by decide +kernel
theorem dX8_grows_14 : decode cX8_grows 14 = .ok (.getfield 7, 3) := by decide +kernel
theorem dX8_grows_17 : decode cX8_grows 17 = .ok (.iconst 0, 1) := by decide +kernel
theorem dX8_grows_18 : decode cX8_grows 18 = .ok (.iaload, 1) := by decide +kernel
theorem dX8_grows_19 : decode cX8_grows 19 = .ok (.ireturn, 1) := by decide +kernel
theorem dX8_clears_0 : decode cX8_clears 0 = .ok (.aload_n 0, 1) := by decide +kernel
theorem dX8_clears_1 : decode cX8_clears 1 = .ok (.invokevirtual 148, 3) := by decide +kernel
theorem dX8_clears_4 : decode cX8_clears 4 = .ok (.istore_n 1, 1) := by decide +kernel
theorem dX8_clears_5 : decode cX8_clears 5 = .ok (.aload_n 0, 1) := by decide +kernel
theorem dX8_clears_6 : decode cX8_clears 6 = .ok (.invokevirtual 113, 3) := by decide +kernel
theorem dX8_clears_9 : decode cX8_clears 9 = .ok (.aload_n 0, 1) := by decide +kernel
theorem dX8_clears_10 : decode cX8_clears 10 = .ok (.getfield 7, 3) := by decide +kernel
theorem dX8_clears_13 : decode cX8_clears 13 = .ok (.bipush 8, 2) := by decide +kernel
theorem dX8_clears_15 : decode cX8_clears 15 = .ok (.dup2, 1) := by decide +kernel
theorem dX8_clears_16 : decode cX8_clears 16 = .ok (.iaload, 1) := by decide +kernel
theorem dX8_clears_17 : decode cX8_clears 17 = .ok (.iload_n 1, 1) := by decide +kernel
theorem dX8_clears_18 : decode cX8_clears 18 = .ok (.iadd, 1) := by decide +kernel
theorem dX8_clears_19 : decode cX8_clears 19 = .ok (.iastore, 1) := by decide +kernel
theorem dX8_clears_20 : decode cX8_clears 20 = .ok (.aload_n 0, 1) := by decide +kernel
theorem dX8_clears_21 : decode cX8_clears 21 = .ok (.getfield 7, 3) := by decide +kernel
theorem dX8_clears_24 : decode cX8_clears 24 = .ok (.iconst 4, 1) := by decide +kernel
theorem dX8_clears_25 : decode cX8_clears 25 = .ok (.iconst 0, 1) := by decide +kernel
theorem dX8_clears_26 : decode cX8_clears 26 = .ok (.iastore, 1) := by decide +kernel
theorem dX8_clears_27 : decode cX8_clears 27 = .ok (.iload_n 1, 1) := by decide +kernel
theorem dX8_clears_28 : decode cX8_clears 28 = .ok (.ireturn, 1) := by decide +kernel
theorem dX8_tell_0 : decode cX8_tell 0 = .ok (.iconst 0, 1) := by decide +kernel
theorem dX8_tell_1 : decode cX8_tell 1 = .ok (.istore_n 2, 1) := by decide +kernel
theorem dX8_tell_2 : decode cX8_tell 2 = .ok (.iload_n 2, 1) := by decide +kernel
theorem dX8_tell_3 : decode cX8_tell 3 = .ok (.aload_n 1, 1) := by decide +kernel
theorem dX8_tell_4 : decode cX8_tell 4 = .ok (.invokevirtual 152, 3) := by decide +kernel
theorem dX8_tell_7 : decode cX8_tell 7 = .ok (.if_icmp .ge 33, 3) := by decide +kernel
theorem dX8_tell_10 : decode cX8_tell 10 = .ok (.aload_n 0, 1) := by decide +kernel
theorem dX8_tell_11 : decode cX8_tell 11 = .ok (.getfield 40, 3) := by decide +kernel
theorem dX8_tell_14 : decode cX8_tell 14 = .ok (.aload_n 0, 1) := by decide +kernel
theorem dX8_tell_15 : decode cX8_tell 15 = .ok (.getfield 157, 3) := by decide +kernel
theorem dX8_tell_18 : decode cX8_tell 18 = .ok (.aload_n 1, 1) := by decide +kernel
theorem dX8_tell_19 : decode cX8_tell 19 = .ok (.iload_n 2, 1) := by decide +kernel
theorem dX8_tell_20 : decode cX8_tell 20 = .ok (.invokevirtual 160, 3) := by decide +kernel
theorem dX8_tell_23 : decode cX8_tell 23 = .ok (.iastore, 1) := by decide +kernel
theorem dX8_tell_24 : decode cX8_tell 24 = .ok (.aload_n 0, 1) := by decide +kernel
theorem dX8_tell_25 : decode cX8_tell 25 = .ok (.dup, 1) := by decide +kernel
theorem dX8_tell_26 : decode cX8_tell 26 = .ok (.getfield 157, 3) := by decide +kernel
theorem dX8_tell_29 : decode cX8_tell 29 = .ok (.iconst 1, 1) := by decide +kernel
theorem dX8_tell_30 : decode cX8_tell 30 = .ok (.iadd, 1) := by decide +kernel
theorem dX8_tell_31 : decode cX8_tell 31 = .ok (.putfield 157, 3) := by decide +kernel
theorem dX8_tell_34 : decode cX8_tell 34 = .ok (.iinc 2 1, 3) := by decide +kernel
theorem dX8_tell_37 : decode cX8_tell 37 = .ok (.goto (-35), 3) := by decide +kernel
theorem dX8_tell_40 : decode cX8_tell 40 = .ok (.return_, 1) := by decide +kernel
theorem dX8_sortOf_0 : decode cX8_sortOf 0 = .ok (.iload_n 0, 1) := by decide +kernel
theorem dX8_sortOf_1 : decode cX8_sortOf 1 = .ok (.bipush 59, 2) := by decide +kernel
theorem dX8_sortOf_3 : decode cX8_sortOf 3 = .ok (.if_icmp .ne 7, 3) := by decide +kernel
theorem dX8_sortOf_6 : decode cX8_sortOf 6 = .ok (.iconst 1, 1) := by decide +kernel
theorem dX8_sortOf_7 : decode cX8_sortOf 7 = .ok (.goto 57, 3) := by decide +kernel
theorem dX8_sortOf_10 : decode cX8_sortOf 10 = .ok (.iload_n 0, 1) := by decide +kernel
theorem dX8_sortOf_11 : decode cX8_sortOf 11 = .ok (.bipush 97, 2) := by decide +kernel
theorem dX8_sortOf_13 : decode cX8_sortOf 13 = .ok (.if_icmp .lt 13, 3) := by decide +kernel
theorem dX8_sortOf_16 : decode cX8_sortOf 16 = .ok (.iload_n 0, 1) := by decide +kernel
theorem dX8_sortOf_17 : decode cX8_sortOf 17 = .ok (.bipush 122, 2) := by decide +kernel
theorem dX8_sortOf_19 : decode cX8_sortOf 19 = .ok (.if_icmp .gt 7, 3) := by decide +kernel
theorem dX8_sortOf_22 : decode cX8_sortOf 22 = .ok (.iconst 2, 1) := by decide +kernel
theorem dX8_sortOf_23 : decode cX8_sortOf 23 = .ok (.goto 41, 3) := by decide +kernel
theorem dX8_sortOf_26 : decode cX8_sortOf 26 = .ok (.iload_n 0, 1) := by decide +kernel
theorem dX8_sortOf_27 : decode cX8_sortOf 27 = .ok (.bipush 48, 2) := by decide +kernel
theorem dX8_sortOf_29 : decode cX8_sortOf 29 = .ok (.if_icmp .lt 13, 3) := by decide +kernel
theorem dX8_sortOf_32 : decode cX8_sortOf 32 = .ok (.iload_n 0, 1) := by decide +kernel
theorem dX8_sortOf_33 : decode cX8_sortOf 33 = .ok (.bipush 57, 2) := by decide +kernel
theorem dX8_sortOf_35 : decode cX8_sortOf 35 = .ok (.if_icmp .gt 7, 3) := by decide +kernel
theorem dX8_sortOf_38 : decode cX8_sortOf 38 = .ok (.iconst 3, 1) := by decide +kernel
theorem dX8_sortOf_39 : decode cX8_sortOf 39 = .ok (.goto 25, 3) := by decide +kernel
theorem dX8_sortOf_42 : decode cX8_sortOf 42 = .ok (.iload_n 0, 1) := by decide +kernel
theorem dX8_sortOf_43 : decode cX8_sortOf 43 = .ok (.bipush 40, 2) := by decide +kernel
theorem dX8_sortOf_45 : decode cX8_sortOf 45 = .ok (.if_icmp .ne 7, 3) := by decide +kernel
theorem dX8_sortOf_48 : decode cX8_sortOf 48 = .ok (.iconst 4, 1) := by decide +kernel
theorem dX8_sortOf_49 : decode cX8_sortOf 49 = .ok (.goto 15, 3) := by decide +kernel
theorem dX8_sortOf_52 : decode cX8_sortOf 52 = .ok (.iload_n 0, 1) := by decide +kernel
theorem dX8_sortOf_53 : decode cX8_sortOf 53 = .ok (.bipush 41, 2) := by decide +kernel
theorem dX8_sortOf_55 : decode cX8_sortOf 55 = .ok (.if_icmp .ne 7, 3) := by decide +kernel
theorem dX8_sortOf_58 : decode cX8_sortOf 58 = .ok (.iconst 5, 1) := by decide +kernel
theorem dX8_sortOf_59 : decode cX8_sortOf 59 = .ok (.goto 5, 3) := by decide +kernel
theorem dX8_sortOf_62 : decode cX8_sortOf 62 = .ok (.bipush 6, 2) := by decide +kernel
theorem dX8_sortOf_64 : decode cX8_sortOf 64 = .ok (.ireturn, 1) := by decide +kernel
theorem dX8_next_0 : decode cX8_next 0 = .ok (.aload_n 0, 1) := by decide +kernel
theorem dX8_next_1 : decode cX8_next 1 = .ok (.aload_n 0, 1) := by decide +kernel
theorem dX8_next_2 : decode cX8_next 2 = .ok (.getfield 164, 3) := by decide +kernel
theorem dX8_next_5 : decode cX8_next 5 = .ok (.putfield 167, 3) := by decide +kernel
theorem dX8_next_8 : decode cX8_next 8 = .ok (.aload_n 0, 1) := by decide +kernel
theorem dX8_next_9 : decode cX8_next 9 = .ok (.getfield 167, 3) := by decide +kernel
theorem dX8_next_12 : decode cX8_next 12 = .ok (.aload_n 0, 1) := by decide +kernel
theorem dX8_next_13 : decode cX8_next 13 = .ok (.getfield 157, 3) := by decide +kernel
theorem dX8_next_16 : decode cX8_next 16 = .ok (.if_icmp .ge 44, 3) := by decide +kernel
theorem dX8_next_19 : decode cX8_next 19 = .ok (.aload_n 0, 1) := by decide +kernel
theorem dX8_next_20 : decode cX8_next 20 = .ok (.getfield 40, 3) := by decide +kernel
theorem dX8_next_23 : decode cX8_next 23 = .ok (.aload_n 0, 1) := by decide +kernel
theorem dX8_next_24 : decode cX8_next 24 = .ok (.getfield 167, 3) := by decide +kernel
theorem dX8_next_27 : decode cX8_next 27 = .ok (.iaload, 1) := by decide +kernel
theorem dX8_next_28 : decode cX8_next 28 = .ok (.bipush 32, 2) := by decide +kernel
theorem dX8_next_30 : decode cX8_next 30 = .ok (.if_icmp .eq 17, 3) := by decide +kernel
theorem dX8_next_33 : decode cX8_next 33 = .ok (.aload_n 0, 1) := by decide +kernel
theorem dX8_next_34 : decode cX8_next 34 = .ok (.getfield 40, 3) := by decide +kernel
theorem dX8_next_37 : decode cX8_next 37 = .ok (.aload_n 0, 1) := by decide +kernel
theorem dX8_next_38 : decode cX8_next 38 = .ok (.getfield 167, 3) := by decide +kernel
theorem dX8_next_41 : decode cX8_next 41 = .ok (.iaload, 1) := by decide +kernel
theorem dX8_next_42 : decode cX8_next 42 = .ok (.bipush 10, 2) := by decide +kernel
theorem dX8_next_44 : decode cX8_next 44 = .ok (.if_icmp .ne 16, 3) := by decide +kernel
theorem dX8_next_47 : decode cX8_next 47 = .ok (.aload_n 0, 1) := by decide +kernel
theorem dX8_next_48 : decode cX8_next 48 = .ok (.dup, 1) := by decide +kernel
theorem dX8_next_49 : decode cX8_next 49 = .ok (.getfield 167, 3) := by decide +kernel
theorem dX8_next_52 : decode cX8_next 52 = .ok (.iconst 1, 1) := by decide +kernel
theorem dX8_next_53 : decode cX8_next 53 = .ok (.iadd, 1) := by decide +kernel
theorem dX8_next_54 : decode cX8_next 54 = .ok (.putfield 167, 3) := by decide +kernel
theorem dX8_next_57 : decode cX8_next 57 = .ok (.goto (-49), 3) := by decide +kernel
theorem dX8_next_60 : decode cX8_next 60 = .ok (.aload_n 0, 1) := by decide +kernel
theorem dX8_next_61 : decode cX8_next 61 = .ok (.aload_n 0, 1) := by decide +kernel
theorem dX8_next_62 : decode cX8_next 62 = .ok (.getfield 167, 3) := by decide +kernel
theorem dX8_next_65 : decode cX8_next 65 = .ok (.putfield 164, 3) := by decide +kernel
theorem dX8_next_68 : decode cX8_next 68 = .ok (.aload_n 0, 1) := by decide +kernel
theorem dX8_next_69 : decode cX8_next 69 = .ok (.getfield 167, 3) := by decide +kernel
theorem dX8_next_72 : decode cX8_next 72 = .ok (.aload_n 0, 1) := by decide +kernel
theorem dX8_next_73 : decode cX8_next 73 = .ok (.getfield 157, 3) := by decide +kernel
theorem dX8_next_76 : decode cX8_next 76 = .ok (.if_icmp .ne 9, 3) := by decide +kernel
theorem dX8_next_79 : decode cX8_next 79 = .ok (.aload_n 0, 1) := by decide +kernel
theorem dX8_next_80 : decode cX8_next 80 = .ok (.iconst 0, 1) := by decide +kernel
theorem dX8_next_81 : decode cX8_next 81 = .ok (.putfield 170, 3) := by decide +kernel
theorem dX8_next_84 : decode cX8_next 84 = .ok (.return_, 1) := by decide +kernel
theorem dX8_next_85 : decode cX8_next 85 = .ok (.aload_n 0, 1) := by decide +kernel
theorem dX8_next_86 : decode cX8_next 86 = .ok (.aload_n 0, 1) := by decide +kernel
theorem dX8_next_87 : decode cX8_next 87 = .ok (.getfield 40, 3) := by decide +kernel
theorem dX8_next_90 : decode cX8_next 90 = .ok (.aload_n 0, 1) := by decide +kernel
theorem dX8_next_91 : decode cX8_next 91 = .ok (.getfield 167, 3) := by decide +kernel
theorem dX8_next_94 : decode cX8_next 94 = .ok (.iaload, 1) := by decide +kernel
theorem dX8_next_95 : decode cX8_next 95 = .ok (.invokestatic 173, 3) := by decide +kernel
theorem dX8_next_98 : decode cX8_next 98 = .ok (.putfield 170, 3) := by decide +kernel
theorem dX8_next_101 : decode cX8_next 101 = .ok (.aload_n 0, 1) := by decide +kernel
theorem dX8_next_102 : decode cX8_next 102 = .ok (.dup, 1) := by decide +kernel
theorem dX8_next_103 : decode cX8_next 103 = .ok (.getfield 164, 3) := by decide +kernel
theorem dX8_next_106 : decode cX8_next 106 = .ok (.iconst 1, 1) := by decide +kernel
theorem dX8_next_107 : decode cX8_next 107 = .ok (.iadd, 1) := by decide +kernel
theorem dX8_next_108 : decode cX8_next 108 = .ok (.putfield 164, 3) := by decide +kernel
theorem dX8_next_111 : decode cX8_next 111 = .ok (.aload_n 0, 1) := by decide +kernel
theorem dX8_next_112 : decode cX8_next 112 = .ok (.getfield 170, 3) := by decide +kernel
theorem dX8_next_115 : decode cX8_next 115 = .ok (.iconst 2, 1) := by decide +kernel
theorem dX8_next_116 : decode cX8_next 116 = .ok (.if_icmp .eq 11, 3) := by decide +kernel
theorem dX8_next_119 : decode cX8_next 119 = .ok (.aload_n 0, 1) := by decide +kernel
theorem dX8_next_120 : decode cX8_next 120 = .ok (.getfield 170, 3) := by decide +kernel
theorem dX8_next_123 : decode cX8_next 123 = .ok (.iconst 3, 1) := by decide +kernel
theorem dX8_next_124 : decode cX8_next 124 = .ok (.if_icmp .ne 46, 3) := by decide +kernel
theorem dX8_next_127 : decode cX8_next 127 = .ok (.aload_n 0, 1) := by decide +kernel
theorem dX8_next_128 : decode cX8_next 128 = .ok (.getfield 164, 3) := by decide +kernel
theorem dX8_next_131 : decode cX8_next 131 = .ok (.aload_n 0, 1) := by decide +kernel
theorem dX8_next_132 : decode cX8_next 132 = .ok (.getfield 157, 3) := by decide +kernel
theorem dX8_next_135 : decode cX8_next 135 = .ok (.if_icmp .ge 35, 3) := by decide +kernel
theorem dX8_next_138 : decode cX8_next 138 = .ok (.aload_n 0, 1) := by decide +kernel
theorem dX8_next_139 : decode cX8_next 139 = .ok (.getfield 40, 3) := by decide +kernel
theorem dX8_next_142 : decode cX8_next 142 = .ok (.aload_n 0, 1) := by decide +kernel
theorem dX8_next_143 : decode cX8_next 143 = .ok (.getfield 164, 3) := by decide +kernel
theorem dX8_next_146 : decode cX8_next 146 = .ok (.iaload, 1) := by decide +kernel
theorem dX8_next_147 : decode cX8_next 147 = .ok (.invokestatic 173, 3) := by decide +kernel
theorem dX8_next_150 : decode cX8_next 150 = .ok (.aload_n 0, 1) := by decide +kernel
theorem dX8_next_151 : decode cX8_next 151 = .ok (.getfield 170, 3) := by decide +kernel
theorem dX8_next_154 : decode cX8_next 154 = .ok (.if_icmp .ne 16, 3) := by decide +kernel
theorem dX8_next_157 : decode cX8_next 157 = .ok (.aload_n 0, 1) := by decide +kernel
theorem dX8_next_158 : decode cX8_next 158 = .ok (.dup, 1) := by decide +kernel
theorem dX8_next_159 : decode cX8_next 159 = .ok (.getfield 164, 3) := by decide +kernel
theorem dX8_next_162 : decode cX8_next 162 = .ok (.iconst 1, 1) := by decide +kernel
theorem dX8_next_163 : decode cX8_next 163 = .ok (.iadd, 1) := by decide +kernel
theorem dX8_next_164 : decode cX8_next 164 = .ok (.putfield 164, 3) := by decide +kernel
theorem dX8_next_167 : decode cX8_next 167 = .ok (.goto (-56), 3) := by decide +kernel
theorem dX8_next_170 : decode cX8_next 170 = .ok (.aload_n 0, 1) := by decide +kernel
theorem dX8_next_171 : decode cX8_next 171 = .ok (.getfield 170, 3) := by decide +kernel
theorem dX8_next_174 : decode cX8_next 174 = .ok (.iconst 3, 1) := by decide +kernel
theorem dX8_next_175 : decode cX8_next 175 = .ok (.if_icmp .ne 22, 3) := by decide +kernel
theorem dX8_next_178 : decode cX8_next 178 = .ok (.aload_n 0, 1) := by decide +kernel
theorem dX8_next_179 : decode cX8_next 179 = .ok (.getfield 164, 3) := by decide +kernel
theorem dX8_next_182 : decode cX8_next 182 = .ok (.aload_n 0, 1) := by decide +kernel
theorem dX8_next_183 : decode cX8_next 183 = .ok (.getfield 167, 3) := by decide +kernel
theorem dX8_next_186 : decode cX8_next 186 = .ok (.isub, 1) := by decide +kernel
theorem dX8_next_187 : decode cX8_next 187 = .ok (.iconst 4, 1) := by decide +kernel
theorem dX8_next_188 : decode cX8_next 188 = .ok (.if_icmp .le 9, 3) := by decide +kernel
theorem dX8_next_191 : decode cX8_next 191 = .ok (.aload_n 0, 1) := by decide +kernel
theorem dX8_next_192 : decode cX8_next 192 = .ok (.bipush 6, 2) := by decide +kernel
theorem dX8_next_194 : decode cX8_next 194 = .ok (.putfield 170, 3) := by decide +kernel
theorem dX8_next_197 : decode cX8_next 197 = .ok (.aload_n 0, 1) := by decide +kernel
theorem dX8_next_198 : decode cX8_next 198 = .ok (.iconst 0, 1) := by decide +kernel
theorem dX8_next_199 : decode cX8_next 199 = .ok (.putfield 176, 3) := by decide +kernel
theorem dX8_next_202 : decode cX8_next 202 = .ok (.aload_n 0, 1) := by decide +kernel
theorem dX8_next_203 : decode cX8_next 203 = .ok (.getfield 167, 3) := by decide +kernel
theorem dX8_next_206 : decode cX8_next 206 = .ok (.istore_n 1, 1) := by decide +kernel
theorem dX8_next_207 : decode cX8_next 207 = .ok (.iload_n 1, 1) := by decide +kernel
theorem dX8_next_208 : decode cX8_next 208 = .ok (.aload_n 0, 1) := by decide +kernel
theorem dX8_next_209 : decode cX8_next 209 = .ok (.getfield 164, 3) := by decide +kernel
theorem dX8_next_212 : decode cX8_next 212 = .ok (.if_icmp .ge 38, 3) := by decide +kernel
theorem dX8_next_215 : decode cX8_next 215 = .ok (.aload_n 0, 1) := by decide +kernel
theorem dX8_next_216 : decode cX8_next 216 = .ok (.getfield 170, 3) := by decide +kernel
theorem dX8_next_219 : decode cX8_next 219 = .ok (.iconst 3, 1) := by decide +kernel
theorem dX8_next_220 : decode cX8_next 220 = .ok (.if_icmp .ne 30, 3) := by decide +kernel
theorem dX8_next_223 : decode cX8_next 223 = .ok (.aload_n 0, 1) := by decide +kernel
theorem dX8_next_224 : decode cX8_next 224 = .ok (.bipush 10, 2) := by decide +kernel
theorem dX8_next_226 : decode cX8_next 226 = .ok (.aload_n 0, 1) := by decide +kernel
theorem dX8_next_227 : decode cX8_next 227 = .ok (.getfield 176, 3) := by decide +kernel
theorem dX8_next_230 : decode cX8_next 230 = .ok (.imul, 1) := by decide +kernel
theorem dX8_next_231 : decode cX8_next 231 = .ok (.aload_n 0, 1) := by decide +kernel
theorem dX8_next_232 : decode cX8_next 232 = .ok (.getfield 40, 3) := by decide +kernel
theorem dX8_next_235 : decode cX8_next 235 = .ok (.iload_n 1, 1) := by decide +kernel
theorem dX8_next_236 : decode cX8_next 236 = .ok (.iaload, 1) := by decide +kernel
theorem dX8_next_237 : decode cX8_next 237 = .ok (.iadd, 1) := by decide +kernel
theorem dX8_next_238 : decode cX8_next 238 = .ok (.bipush 48, 2) := by decide +kernel
theorem dX8_next_240 : decode cX8_next 240 = .ok (.isub, 1) := by decide +kernel
theorem dX8_next_241 : decode cX8_next 241 = .ok (.putfield 176, 3) := by decide +kernel
theorem dX8_next_244 : decode cX8_next 244 = .ok (.iinc 1 1, 3) := by decide +kernel
theorem dX8_next_247 : decode cX8_next 247 = .ok (.goto (-40), 3) := by decide +kernel
theorem dX8_next_250 : decode cX8_next 250 = .ok (.return_, 1) := by decide +kernel
theorem dX8_says_0 : decode cX8_says 0 = .ok (.aload_n 0, 1) := by decide +kernel
theorem dX8_says_1 : decode cX8_says 1 = .ok (.getfield 170, 3) := by decide +kernel
theorem dX8_says_4 : decode cX8_says 4 = .ok (.iconst 2, 1) := by decide +kernel
theorem dX8_says_5 : decode cX8_says 5 = .ok (.if_icmp .ne 19, 3) := by decide +kernel
theorem dX8_says_8 : decode cX8_says 8 = .ok (.aload_n 0, 1) := by decide +kernel
theorem dX8_says_9 : decode cX8_says 9 = .ok (.getfield 164, 3) := by decide +kernel
theorem dX8_says_12 : decode cX8_says 12 = .ok (.aload_n 0, 1) := by decide +kernel
theorem dX8_says_13 : decode cX8_says 13 = .ok (.getfield 167, 3) := by decide +kernel
theorem dX8_says_16 : decode cX8_says 16 = .ok (.isub, 1) := by decide +kernel
theorem dX8_says_17 : decode cX8_says 17 = .ok (.aload_n 1, 1) := by decide +kernel
theorem dX8_says_18 : decode cX8_says 18 = .ok (.invokevirtual 152, 3) := by decide +kernel
theorem dX8_says_21 : decode cX8_says 21 = .ok (.if_icmp .eq 5, 3) := by decide +kernel
theorem dX8_says_24 : decode cX8_says 24 = .ok (.iconst 0, 1) := by decide +kernel
theorem dX8_says_25 : decode cX8_says 25 = .ok (.ireturn, 1) := by decide +kernel
theorem dX8_says_26 : decode cX8_says 26 = .ok (.iconst 0, 1) := by decide +kernel
theorem dX8_says_27 : decode cX8_says 27 = .ok (.istore_n 2, 1) := by decide +kernel
theorem dX8_says_28 : decode cX8_says 28 = .ok (.iload_n 2, 1) := by decide +kernel
theorem dX8_says_29 : decode cX8_says 29 = .ok (.aload_n 1, 1) := by decide +kernel
theorem dX8_says_30 : decode cX8_says 30 = .ok (.invokevirtual 152, 3) := by decide +kernel
theorem dX8_says_33 : decode cX8_says 33 = .ok (.if_icmp .ge 30, 3) := by decide +kernel
theorem dX8_says_36 : decode cX8_says 36 = .ok (.aload_n 0, 1) := by decide +kernel
theorem dX8_says_37 : decode cX8_says 37 = .ok (.getfield 40, 3) := by decide +kernel
theorem dX8_says_40 : decode cX8_says 40 = .ok (.aload_n 0, 1) := by decide +kernel
theorem dX8_says_41 : decode cX8_says 41 = .ok (.getfield 167, 3) := by decide +kernel
theorem dX8_says_44 : decode cX8_says 44 = .ok (.iload_n 2, 1) := by decide +kernel
theorem dX8_says_45 : decode cX8_says 45 = .ok (.iadd, 1) := by decide +kernel
theorem dX8_says_46 : decode cX8_says 46 = .ok (.iaload, 1) := by decide +kernel
theorem dX8_says_47 : decode cX8_says 47 = .ok (.aload_n 1, 1) := by decide +kernel
theorem dX8_says_48 : decode cX8_says 48 = .ok (.iload_n 2, 1) := by decide +kernel
theorem dX8_says_49 : decode cX8_says 49 = .ok (.invokevirtual 160, 3) := by decide +kernel
theorem dX8_says_52 : decode cX8_says 52 = .ok (.if_icmp .eq 5, 3) := by decide +kernel
theorem dX8_says_55 : decode cX8_says 55 = .ok (.iconst 0, 1) := by decide +kernel
theorem dX8_says_56 : decode cX8_says 56 = .ok (.ireturn, 1) := by decide +kernel
theorem dX8_says_57 : decode cX8_says 57 = .ok (.iinc 2 1, 3) := by decide +kernel
theorem dX8_says_60 : decode cX8_says 60 = .ok (.goto (-32), 3) := by decide +kernel
theorem dX8_says_63 : decode cX8_says 63 = .ok (.iconst 1, 1) := by decide +kernel
theorem dX8_says_64 : decode cX8_says 64 = .ok (.ireturn, 1) := by decide +kernel
theorem dX8_fail_0 : decode cX8_fail 0 = .ok (.aload_n 0, 1) := by decide +kernel
theorem dX8_fail_1 : decode cX8_fail 1 = .ok (.getfield 179, 3) := by decide +kernel
theorem dX8_fail_4 : decode cX8_fail 4 = .ok (.ifCond .ne 16, 3) := by decide +kernel
theorem dX8_fail_7 : decode cX8_fail 7 = .ok (.aload_n 0, 1) := by decide +kernel
theorem dX8_fail_8 : decode cX8_fail 8 = .ok (.iload_n 1, 1) := by decide +kernel
theorem dX8_fail_9 : decode cX8_fail 9 = .ok (.putfield 179, 3) := by decide +kernel
theorem dX8_fail_12 : decode cX8_fail 12 = .ok (.aload_n 0, 1) := by decide +kernel
theorem dX8_fail_13 : decode cX8_fail 13 = .ok (.aload_n 0, 1) := by decide +kernel
theorem dX8_fail_14 : decode cX8_fail 14 = .ok (.getfield 167, 3) := by decide +kernel
theorem dX8_fail_17 : decode cX8_fail 17 = .ok (.putfield 43, 3) := by decide +kernel
theorem dX8_fail_20 : decode cX8_fail 20 = .ok (.iconst 0, 1) := by decide +kernel
theorem dX8_fail_21 : decode cX8_fail 21 = .ok (.ireturn, 1) := by decide +kernel
theorem dX8_is_0 : decode cX8_is 0 = .ok (.aload_n 0, 1) := by decide +kernel
theorem dX8_is_1 : decode cX8_is 1 = .ok (.getfield 170, 3) := by decide +kernel
theorem dX8_is_4 : decode cX8_is 4 = .ok (.iload_n 1, 1) := by decide +kernel
theorem dX8_is_5 : decode cX8_is 5 = .ok (.if_icmp .eq 11, 3) := by decide +kernel
theorem dX8_is_8 : decode cX8_is 8 = .ok (.aload_n 0, 1) := by decide +kernel
theorem dX8_is_9 : decode cX8_is 9 = .ok (.iconst 1, 1) := by decide +kernel
theorem dX8_is_10 : decode cX8_is 10 = .ok (.invokevirtual 182, 3) := by decide +kernel
theorem dX8_is_13 : decode cX8_is 13 = .ok (.ifCond .eq 7, 3) := by decide +kernel
theorem dX8_is_16 : decode cX8_is 16 = .ok (.iconst 1, 1) := by decide +kernel
theorem dX8_is_17 : decode cX8_is 17 = .ok (.goto 4, 3) := by decide +kernel
theorem dX8_is_20 : decode cX8_is 20 = .ok (.iconst 0, 1) := by decide +kernel
theorem dX8_is_21 : decode cX8_is 21 = .ok (.ireturn, 1) := by decide +kernel
theorem dX8_number_0 : decode cX8_number 0 = .ok (.aload_n 0, 1) := by decide +kernel
theorem dX8_number_1 : decode cX8_number 1 = .ok (.iconst 3, 1) := by decide +kernel
theorem dX8_number_2 : decode cX8_number 2 = .ok (.invokevirtual 185, 3) := by decide +kernel
theorem dX8_number_5 : decode cX8_number 5 = .ok (.ifCond .ne 5, 3) := by decide +kernel
theorem dX8_number_8 : decode cX8_number 8 = .ok (.iconst 0, 1) := by decide +kernel
theorem dX8_number_9 : decode cX8_number 9 = .ok (.ireturn, 1) := by decide +kernel
theorem dX8_number_10 : decode cX8_number 10 = .ok (.aload_n 0, 1) := by decide +kernel
theorem dX8_number_11 : decode cX8_number 11 = .ok (.getfield 176, 3) := by decide +kernel
theorem dX8_number_14 : decode cX8_number 14 = .ok (.iload_n 2, 1) := by decide +kernel
theorem dX8_number_15 : decode cX8_number 15 = .ok (.iload_n 3, 1) := by decide +kernel
theorem dX8_number_16 : decode cX8_number 16 = .ok (.invokestatic 67, 3) := by decide +kernel
theorem dX8_number_19 : decode cX8_number 19 = .ok (.ifCond .ne 9, 3) := by decide +kernel
theorem dX8_number_22 : decode cX8_number 22 = .ok (.aload_n 0, 1) := by decide +kernel
theorem dX8_number_23 : decode cX8_number 23 = .ok (.iconst 2, 1) := by decide +kernel
theorem dX8_number_24 : decode cX8_number 24 = .ok (.invokevirtual 182, 3) := by decide +kernel
theorem dX8_number_27 : decode cX8_number 27 = .ok (.ireturn, 1) := by decide +kernel
theorem dX8_number_28 : decode cX8_number 28 = .ok (.aload_n 0, 1) := by decide +kernel
theorem dX8_number_29 : decode cX8_number 29 = .ok (.getfield 51, 3) := by decide +kernel
theorem dX8_number_32 : decode cX8_number 32 = .ok (.iload_n 1, 1) := by decide +kernel
theorem dX8_number_33 : decode cX8_number 33 = .ok (.aload_n 0, 1) := by decide +kernel
theorem dX8_number_34 : decode cX8_number 34 = .ok (.getfield 176, 3) := by decide +kernel
theorem dX8_number_37 : decode cX8_number 37 = .ok (.iastore, 1) := by decide +kernel
theorem dX8_number_38 : decode cX8_number 38 = .ok (.aload_n 0, 1) := by decide +kernel
theorem dX8_number_39 : decode cX8_number 39 = .ok (.invokevirtual 188, 3) := by decide +kernel
theorem dX8_number_42 : decode cX8_number 42 = .ok (.iconst 1, 1) := by decide +kernel
theorem dX8_number_43 : decode cX8_number 43 = .ok (.ireturn, 1) := by decide +kernel
theorem dX8_stops_0 : decode cX8_stops 0 = .ok (.aload_n 0, 1) := by decide +kernel
theorem dX8_stops_1 : decode cX8_stops 1 = .ok (.iconst 1, 1) := by decide +kernel
theorem dX8_stops_2 : decode cX8_stops 2 = .ok (.invokevirtual 185, 3) := by decide +kernel
theorem dX8_stops_5 : decode cX8_stops 5 = .ok (.ifCond .eq 19, 3) := by decide +kernel
theorem dX8_stops_8 : decode cX8_stops 8 = .ok (.iload_n 1, 1) := by decide +kernel
theorem dX8_stops_9 : decode cX8_stops 9 = .ok (.ifCond .ne 11, 3) := by decide +kernel
theorem dX8_stops_12 : decode cX8_stops 12 = .ok (.aload_n 0, 1) := by decide +kernel
theorem dX8_stops_13 : decode cX8_stops 13 = .ok (.iconst 3, 1) := by decide +kernel
theorem dX8_stops_14 : decode cX8_stops 14 = .ok (.invokevirtual 182, 3) := by decide +kernel
theorem dX8_stops_17 : decode cX8_stops 17 = .ok (.ifCond .eq 7, 3) := by decide +kernel
theorem dX8_stops_20 : decode cX8_stops 20 = .ok (.iconst 1, 1) := by decide +kernel
theorem dX8_stops_21 : decode cX8_stops 21 = .ok (.goto 4, 3) := by decide +kernel
theorem dX8_stops_24 : decode cX8_stops 24 = .ok (.iconst 0, 1) := by decide +kernel
theorem dX8_stops_25 : decode cX8_stops 25 = .ok (.ireturn, 1) := by decide +kernel
theorem dX8_readsEntry_0 : decode cX8_readsEntry 0 = .ok (.aload_n 0, 1) := by decide +kernel
theorem dX8_readsEntry_1 : decode cX8_readsEntry 1 = .ok (.iconst 0, 1) := by decide +kernel
theorem dX8_readsEntry_2 : decode cX8_readsEntry 2 = .ok (.iconst 0, 1) := by decide +kernel
theorem dX8_readsEntry_3 : decode cX8_readsEntry 3 = .ok (.sipush 9999, 3) := by decide +kernel
theorem dX8_readsEntry_6 : decode cX8_readsEntry 6 = .ok (.invokevirtual 191, 3) := by decide +kernel
theorem dX8_readsEntry_9 : decode cX8_readsEntry 9 = .ok (.ifCond .eq 19, 3) := by decide +kernel
theorem dX8_readsEntry_12 : decode cX8_readsEntry 12 = .ok (.aload_n 0, 1) := by decide +kernel
theorem dX8_readsEntry_13 : decode cX8_readsEntry 13 = .ok (.iconst 1, 1) := by decide +kernel
theorem dX8_readsEntry_14 : decode cX8_readsEntry 14 = .ok (.iconst 0, 1) := by decide +kernel
theorem dX8_readsEntry_15 : decode cX8_readsEntry 15 = .ok (.sipush 999, 3) := by decide +kernel
theorem dX8_readsEntry_18 : decode cX8_readsEntry 18 = .ok (.invokevirtual 191, 3) := by decide +kernel
theorem dX8_readsEntry_21 : decode cX8_readsEntry 21 = .ok (.ifCond .eq 7, 3) := by decide +kernel
theorem dX8_readsEntry_24 : decode cX8_readsEntry 24 = .ok (.iconst 1, 1) := by decide +kernel
theorem dX8_readsEntry_25 : decode cX8_readsEntry 25 = .ok (.goto 4, 3) := by decide +kernel
theorem dX8_readsEntry_28 : decode cX8_readsEntry 28 = .ok (.iconst 0, 1) := by decide +kernel
theorem dX8_readsEntry_29 : decode cX8_readsEntry 29 = .ok (.ireturn, 1) := by decide +kernel
theorem dX8_readsAdd_0 : decode cX8_readsAdd 0 = .ok (.aload_n 0, 1) := by decide +kernel
theorem dX8_readsAdd_1 : decode cX8_readsAdd 1 = .ok (.invokevirtual 194, 3) := by decide +kernel
theorem dX8_readsAdd_4 : decode cX8_readsAdd 4 = .ok (.ifCond .eq 28, 3) := by decide +kernel
theorem dX8_readsAdd_7 : decode cX8_readsAdd 7 = .ok (.aload_n 0, 1) := by decide +kernel
theorem dX8_readsAdd_8 : decode cX8_readsAdd 8 = .ok (.aload_n 0, 1) := by decide +kernel
theorem dX8_readsAdd_9 : decode cX8_readsAdd 9 = .ok (.aload_n 0, 1) := by decide +kernel
theorem dX8_readsAdd_10 : decode cX8_readsAdd 10 = .ok (.getfield 51, 3) := by decide +kernel
theorem dX8_readsAdd_13 : decode cX8_readsAdd 13 = .ok (.iconst 0, 1) := by decide +kernel
theorem dX8_readsAdd_14 : decode cX8_readsAdd 14 = .ok (.iaload, 1) := by decide +kernel
theorem dX8_readsAdd_15 : decode cX8_readsAdd 15 = .ok (.invokevirtual 197, 3) := by decide +kernel
theorem dX8_readsAdd_18 : decode cX8_readsAdd 18 = .ok (.ifCond .ne 7, 3) := by decide +kernel
theorem dX8_readsAdd_21 : decode cX8_readsAdd 21 = .ok (.iconst 1, 1) := by decide +kernel
theorem dX8_readsAdd_22 : decode cX8_readsAdd 22 = .ok (.goto 4, 3) := by decide +kernel
theorem dX8_readsAdd_25 : decode cX8_readsAdd 25 = .ok (.iconst 0, 1) := by decide +kernel
theorem dX8_readsAdd_26 : decode cX8_readsAdd 26 = .ok (.invokevirtual 200, 3) := by decide +kernel
theorem dX8_readsAdd_29 : decode cX8_readsAdd 29 = .ok (.ifCond .ne 5, 3) := by decide +kernel
theorem dX8_readsAdd_32 : decode cX8_readsAdd 32 = .ok (.iconst 0, 1) := by decide +kernel
theorem dX8_readsAdd_33 : decode cX8_readsAdd 33 = .ok (.ireturn, 1) := by decide +kernel
theorem dX8_readsAdd_34 : decode cX8_readsAdd 34 = .ok (.aload_n 0, 1) := by decide +kernel
theorem dX8_readsAdd_35 : decode cX8_readsAdd 35 = .ok (.aload_n 0, 1) := by decide +kernel
theorem dX8_readsAdd_36 : decode cX8_readsAdd 36 = .ok (.getfield 51, 3) := by decide +kernel
theorem dX8_readsAdd_39 : decode cX8_readsAdd 39 = .ok (.iconst 0, 1) := by decide +kernel
theorem dX8_readsAdd_40 : decode cX8_readsAdd 40 = .ok (.iaload, 1) := by decide +kernel
theorem dX8_readsAdd_41 : decode cX8_readsAdd 41 = .ok (.aload_n 0, 1) := by decide +kernel
theorem dX8_readsAdd_42 : decode cX8_readsAdd 42 = .ok (.getfield 51, 3) := by decide +kernel
theorem dX8_readsAdd_45 : decode cX8_readsAdd 45 = .ok (.iconst 1, 1) := by decide +kernel
theorem dX8_readsAdd_46 : decode cX8_readsAdd 46 = .ok (.iaload, 1) := by decide +kernel
theorem dX8_readsAdd_47 : decode cX8_readsAdd 47 = .ok (.invokevirtual 132, 3) := by decide +kernel
theorem dX8_readsAdd_50 : decode cX8_readsAdd 50 = .ok (.pop, 1) := by decide +kernel
theorem dX8_readsAdd_51 : decode cX8_readsAdd 51 = .ok (.iconst 1, 1) := by decide +kernel
theorem dX8_readsAdd_52 : decode cX8_readsAdd 52 = .ok (.ireturn, 1) := by decide +kernel
theorem dX8_readsPut_0 : decode cX8_readsPut 0 = .ok (.aload_n 0, 1) := by decide +kernel
theorem dX8_readsPut_1 : decode cX8_readsPut 1 = .ok (.invokevirtual 194, 3) := by decide +kernel
theorem dX8_readsPut_4 : decode cX8_readsPut 4 = .ok (.ifCond .eq 29, 3) := by decide +kernel
theorem dX8_readsPut_7 : decode cX8_readsPut 7 = .ok (.aload_n 0, 1) := by decide +kernel
theorem dX8_readsPut_8 : decode cX8_readsPut 8 = .ok (.aload_n 0, 1) := by decide +kernel
theorem dX8_readsPut_9 : decode cX8_readsPut 9 = .ok (.aload_n 0, 1) := by decide +kernel
theorem dX8_readsPut_10 : decode cX8_readsPut 10 = .ok (.getfield 51, 3) := by decide +kernel
theorem dX8_readsPut_13 : decode cX8_readsPut 13 = .ok (.iconst 0, 1) := by decide +kernel
theorem dX8_readsPut_14 : decode cX8_readsPut 14 = .ok (.iaload, 1) := by decide +kernel
theorem dX8_readsPut_15 : decode cX8_readsPut 15 = .ok (.invokevirtual 197, 3) := by decide +kernel
theorem dX8_readsPut_18 : decode cX8_readsPut 18 = .ok (.iconst 2, 1) := by decide +kernel
theorem dX8_readsPut_19 : decode cX8_readsPut 19 = .ok (.if_icmp .eq 7, 3) := by decide +kernel
theorem dX8_readsPut_22 : decode cX8_readsPut 22 = .ok (.iconst 1, 1) := by decide +kernel
theorem dX8_readsPut_23 : decode cX8_readsPut 23 = .ok (.goto 4, 3) := by decide +kernel
theorem dX8_readsPut_26 : decode cX8_readsPut 26 = .ok (.iconst 0, 1) := by decide +kernel
theorem dX8_readsPut_27 : decode cX8_readsPut 27 = .ok (.invokevirtual 200, 3) := by decide +kernel
theorem dX8_readsPut_30 : decode cX8_readsPut 30 = .ok (.ifCond .ne 5, 3) := by decide +kernel
theorem dX8_readsPut_33 : decode cX8_readsPut 33 = .ok (.iconst 0, 1) := by decide +kernel
theorem dX8_readsPut_34 : decode cX8_readsPut 34 = .ok (.ireturn, 1) := by decide +kernel
theorem dX8_readsPut_35 : decode cX8_readsPut 35 = .ok (.aload_n 0, 1) := by decide +kernel
theorem dX8_readsPut_36 : decode cX8_readsPut 36 = .ok (.aload_n 0, 1) := by decide +kernel
theorem dX8_readsPut_37 : decode cX8_readsPut 37 = .ok (.getfield 51, 3) := by decide +kernel
theorem dX8_readsPut_40 : decode cX8_readsPut 40 = .ok (.iconst 0, 1) := by decide +kernel
theorem dX8_readsPut_41 : decode cX8_readsPut 41 = .ok (.iaload, 1) := by decide +kernel
theorem dX8_readsPut_42 : decode cX8_readsPut 42 = .ok (.aload_n 0, 1) := by decide +kernel
theorem dX8_readsPut_43 : decode cX8_readsPut 43 = .ok (.getfield 51, 3) := by decide +kernel
theorem dX8_readsPut_46 : decode cX8_readsPut 46 = .ok (.iconst 1, 1) := by decide +kernel
theorem dX8_readsPut_47 : decode cX8_readsPut 47 = .ok (.iaload, 1) := by decide +kernel
theorem dX8_readsPut_48 : decode cX8_readsPut 48 = .ok (.invokevirtual 204, 3) := by decide +kernel
theorem dX8_readsPut_51 : decode cX8_readsPut 51 = .ok (.pop, 1) := by decide +kernel
theorem dX8_readsPut_52 : decode cX8_readsPut 52 = .ok (.iconst 1, 1) := by decide +kernel
theorem dX8_readsPut_53 : decode cX8_readsPut 53 = .ok (.ireturn, 1) := by decide +kernel
theorem dX8_readsRow_0 : decode cX8_readsRow 0 = .ok (.aload_n 0, 1) := by decide +kernel
theorem dX8_readsRow_1 : decode cX8_readsRow 1 = .ok (.iconst 0, 1) := by decide +kernel
theorem dX8_readsRow_2 : decode cX8_readsRow 2 = .ok (.iconst 0, 1) := by decide +kernel
theorem dX8_readsRow_3 : decode cX8_readsRow 3 = .ok (.sipush 9999, 3) := by decide +kernel
theorem dX8_readsRow_6 : decode cX8_readsRow 6 = .ok (.invokevirtual 191, 3) := by decide +kernel
theorem dX8_readsRow_9 : decode cX8_readsRow 9 = .ok (.ifCond .eq 48, 3) := by decide +kernel
theorem dX8_readsRow_12 : decode cX8_readsRow 12 = .ok (.aload_n 0, 1) := by decide +kernel
theorem dX8_readsRow_13 : decode cX8_readsRow 13 = .ok (.iconst 1, 1) := by decide +kernel
theorem dX8_readsRow_14 : decode cX8_readsRow 14 = .ok (.iconst 1, 1) := by decide +kernel
theorem dX8_readsRow_15 : decode cX8_readsRow 15 = .ok (.sipush 999, 3) := by decide +kernel
theorem dX8_readsRow_18 : decode cX8_readsRow 18 = .ok (.invokevirtual 191, 3) := by decide +kernel
theorem dX8_readsRow_21 : decode cX8_readsRow 21 = .ok (.ifCond .eq 36, 3) := by decide +kernel
theorem dX8_readsRow_24 : decode cX8_readsRow 24 = .ok (.aload_n 0, 1) := by decide +kernel
theorem dX8_readsRow_25 : decode cX8_readsRow 25 = .ok (.iconst 2, 1) := by decide +kernel
theorem dX8_readsRow_26 : decode cX8_readsRow 26 = .ok (.iconst 1, 1) := by decide +kernel
theorem dX8_readsRow_27 : decode cX8_readsRow 27 = .ok (.bipush 20, 2) := by decide +kernel
theorem dX8_readsRow_29 : decode cX8_readsRow 29 = .ok (.iconst 1, 1) := by decide +kernel
theorem dX8_readsRow_30 : decode cX8_readsRow 30 = .ok (.sipush 9999, 3) := by decide +kernel
theorem dX8_readsRow_33 : decode cX8_readsRow 33 = .ok (.aload_n 0, 1) := by decide +kernel
theorem dX8_readsRow_34 : decode cX8_readsRow 34 = .ok (.getfield 51, 3) := by decide +kernel
theorem dX8_readsRow_37 : decode cX8_readsRow 37 = .ok (.iconst 0, 1) := by decide +kernel
theorem dX8_readsRow_38 : decode cX8_readsRow 38 = .ok (.iaload, 1) := by decide +kernel
theorem dX8_readsRow_39 : decode cX8_readsRow 39 = .ok (.isub, 1) := by decide +kernel
theorem dX8_readsRow_40 : decode cX8_readsRow 40 = .ok (.aload_n 0, 1) := by decide +kernel
theorem dX8_readsRow_41 : decode cX8_readsRow 41 = .ok (.getfield 51, 3) := by decide +kernel
theorem dX8_readsRow_44 : decode cX8_readsRow 44 = .ok (.iconst 1, 1) := by decide +kernel
theorem dX8_readsRow_45 : decode cX8_readsRow 45 = .ok (.iaload, 1) := by decide +kernel
theorem dX8_readsRow_46 : decode cX8_readsRow 46 = .ok (.idiv, 1) := by decide +kernel
theorem dX8_readsRow_47 : decode cX8_readsRow 47 = .ok (.iadd, 1) := by decide +kernel
theorem dX8_readsRow_48 : decode cX8_readsRow 48 = .ok (.invokestatic 207, 3) := by decide +kernel
theorem dX8_readsRow_51 : decode cX8_readsRow 51 = .ok (.invokevirtual 191, 3) := by decide +kernel
theorem dX8_readsRow_54 : decode cX8_readsRow 54 = .ok (.ifCond .ne 5, 3) := by decide +kernel
theorem dX8_readsRow_57 : decode cX8_readsRow 57 = .ok (.iconst 0, 1) := by decide +kernel
theorem dX8_readsRow_58 : decode cX8_readsRow 58 = .ok (.ireturn, 1) := by decide +kernel
theorem dX8_readsRow_59 : decode cX8_readsRow 59 = .ok (.aload_n 0, 1) := by decide +kernel
theorem dX8_readsRow_60 : decode cX8_readsRow 60 = .ok (.aload_n 0, 1) := by decide +kernel
theorem dX8_readsRow_61 : decode cX8_readsRow 61 = .ok (.aload_n 0, 1) := by decide +kernel
theorem dX8_readsRow_62 : decode cX8_readsRow 62 = .ok (.getfield 51, 3) := by decide +kernel
theorem dX8_readsRow_65 : decode cX8_readsRow 65 = .ok (.iconst 0, 1) := by decide +kernel
theorem dX8_readsRow_66 : decode cX8_readsRow 66 = .ok (.iaload, 1) := by decide +kernel
theorem dX8_readsRow_67 : decode cX8_readsRow 67 = .ok (.aload_n 0, 1) := by decide +kernel
theorem dX8_readsRow_68 : decode cX8_readsRow 68 = .ok (.getfield 51, 3) := by decide +kernel
theorem dX8_readsRow_71 : decode cX8_readsRow 71 = .ok (.iconst 1, 1) := by decide +kernel
theorem dX8_readsRow_72 : decode cX8_readsRow 72 = .ok (.iaload, 1) := by decide +kernel
theorem dX8_readsRow_73 : decode cX8_readsRow 73 = .ok (.aload_n 0, 1) := by decide +kernel
theorem dX8_readsRow_74 : decode cX8_readsRow 74 = .ok (.getfield 51, 3) := by decide +kernel
theorem dX8_readsRow_77 : decode cX8_readsRow 77 = .ok (.iconst 2, 1) := by decide +kernel
theorem dX8_readsRow_78 : decode cX8_readsRow 78 = .ok (.iaload, 1) := by decide +kernel
theorem dX8_readsRow_79 : decode cX8_readsRow 79 = .ok (.invokevirtual 212, 3) := by decide +kernel
theorem dX8_readsRow_82 : decode cX8_readsRow 82 = .ok (.invokevirtual 200, 3) := by decide +kernel
theorem dX8_readsRow_85 : decode cX8_readsRow 85 = .ok (.ifCond .ne 5, 3) := by decide +kernel
theorem dX8_readsRow_88 : decode cX8_readsRow 88 = .ok (.iconst 0, 1) := by decide +kernel
theorem dX8_readsRow_89 : decode cX8_readsRow 89 = .ok (.ireturn, 1) := by decide +kernel
theorem dX8_readsRow_90 : decode cX8_readsRow 90 = .ok (.aload_n 0, 1) := by decide +kernel
theorem dX8_readsRow_91 : decode cX8_readsRow 91 = .ok (.aload_n 0, 1) := by decide +kernel
theorem dX8_readsRow_92 : decode cX8_readsRow 92 = .ok (.getfield 51, 3) := by decide +kernel
theorem dX8_readsRow_95 : decode cX8_readsRow 95 = .ok (.iconst 0, 1) := by decide +kernel
theorem dX8_readsRow_96 : decode cX8_readsRow 96 = .ok (.iaload, 1) := by decide +kernel
theorem dX8_readsRow_97 : decode cX8_readsRow 97 = .ok (.aload_n 0, 1) := by decide +kernel
theorem dX8_readsRow_98 : decode cX8_readsRow 98 = .ok (.getfield 51, 3) := by decide +kernel
theorem dX8_readsRow_101 : decode cX8_readsRow 101 = .ok (.iconst 1, 1) := by decide +kernel
theorem dX8_readsRow_102 : decode cX8_readsRow 102 = .ok (.iaload, 1) := by decide +kernel
theorem dX8_readsRow_103 : decode cX8_readsRow 103 = .ok (.aload_n 0, 1) := by decide +kernel
theorem dX8_readsRow_104 : decode cX8_readsRow 104 = .ok (.getfield 51, 3) := by decide +kernel
theorem dX8_readsRow_107 : decode cX8_readsRow 107 = .ok (.iconst 2, 1) := by decide +kernel
theorem dX8_readsRow_108 : decode cX8_readsRow 108 = .ok (.iaload, 1) := by decide +kernel
theorem dX8_readsRow_109 : decode cX8_readsRow 109 = .ok (.invokevirtual 135, 3) := by decide +kernel
theorem dX8_readsRow_112 : decode cX8_readsRow 112 = .ok (.pop, 1) := by decide +kernel
theorem dX8_readsRow_113 : decode cX8_readsRow 113 = .ok (.iconst 1, 1) := by decide +kernel
theorem dX8_readsRow_114 : decode cX8_readsRow 114 = .ok (.ireturn, 1) := by decide +kernel
theorem dX8_readsRemove_0 : decode cX8_readsRemove 0 = .ok (.aload_n 0, 1) := by decide +kernel
theorem dX8_readsRemove_1 : decode cX8_readsRemove 1 = .ok (.getfield 170, 3) := by decide +kernel
theorem dX8_readsRemove_4 : decode cX8_readsRemove 4 = .ok (.iconst 3, 1) := by decide +kernel
theorem dX8_readsRemove_5 : decode cX8_readsRemove 5 = .ok (.if_icmp .ne 21, 3) := by decide +kernel
theorem dX8_readsRemove_8 : decode cX8_readsRemove 8 = .ok (.aload_n 0, 1) := by decide +kernel
theorem dX8_readsRemove_9 : decode cX8_readsRemove 9 = .ok (.aload_n 0, 1) := by decide +kernel
theorem dX8_readsRemove_10 : decode cX8_readsRemove 10 = .ok (.getfield 176, 3) := by decide +kernel
theorem dX8_readsRemove_13 : decode cX8_readsRemove 13 = .ok (.invokevirtual 129, 3) := by decide +kernel
theorem dX8_readsRemove_16 : decode cX8_readsRemove 16 = .ok (.iconst (-1), 1) := by decide +kernel
theorem dX8_readsRemove_17 : decode cX8_readsRemove 17 = .ok (.if_icmp .ne 9, 3) := by decide +kernel
theorem dX8_readsRemove_20 : decode cX8_readsRemove 20 = .ok (.aload_n 0, 1) := by decide +kernel
theorem dX8_readsRemove_21 : decode cX8_readsRemove 21 = .ok (.iconst 2, 1) := by decide +kernel
theorem dX8_readsRemove_22 : decode cX8_readsRemove 22 = .ok (.invokevirtual 182, 3) := by decide +kernel
theorem dX8_readsRemove_25 : decode cX8_readsRemove 25 = .ok (.ireturn, 1) := by decide +kernel
theorem dX8_readsRemove_26 : decode cX8_readsRemove 26 = .ok (.aload_n 0, 1) := by decide +kernel
theorem dX8_readsRemove_27 : decode cX8_readsRemove 27 = .ok (.iconst 0, 1) := by decide +kernel
theorem dX8_readsRemove_28 : decode cX8_readsRemove 28 = .ok (.iconst 0, 1) := by decide +kernel
theorem dX8_readsRemove_29 : decode cX8_readsRemove 29 = .ok (.sipush 9999, 3) := by decide +kernel
theorem dX8_readsRemove_32 : decode cX8_readsRemove 32 = .ok (.invokevirtual 191, 3) := by decide +kernel
theorem dX8_readsRemove_35 : decode cX8_readsRemove 35 = .ok (.ifCond .eq 11, 3) := by decide +kernel
theorem dX8_readsRemove_38 : decode cX8_readsRemove 38 = .ok (.aload_n 0, 1) := by decide +kernel
theorem dX8_readsRemove_39 : decode cX8_readsRemove 39 = .ok (.iconst 1, 1) := by decide +kernel
theorem dX8_readsRemove_40 : decode cX8_readsRemove 40 = .ok (.invokevirtual 200, 3) := by decide +kernel
theorem dX8_readsRemove_43 : decode cX8_readsRemove 43 = .ok (.ifCond .ne 5, 3) := by decide +kernel
theorem dX8_readsRemove_46 : decode cX8_readsRemove 46 = .ok (.iconst 0, 1) := by decide +kernel
theorem dX8_readsRemove_47 : decode cX8_readsRemove 47 = .ok (.ireturn, 1) := by decide +kernel
theorem dX8_readsRemove_48 : decode cX8_readsRemove 48 = .ok (.aload_n 0, 1) := by decide +kernel
theorem dX8_readsRemove_49 : decode cX8_readsRemove 49 = .ok (.aload_n 0, 1) := by decide +kernel
theorem dX8_readsRemove_50 : decode cX8_readsRemove 50 = .ok (.getfield 51, 3) := by decide +kernel
theorem dX8_readsRemove_53 : decode cX8_readsRemove 53 = .ok (.iconst 0, 1) := by decide +kernel
theorem dX8_readsRemove_54 : decode cX8_readsRemove 54 = .ok (.iaload, 1) := by decide +kernel
theorem dX8_readsRemove_55 : decode cX8_readsRemove 55 = .ok (.invokevirtual 215, 3) := by decide +kernel
theorem dX8_readsRemove_58 : decode cX8_readsRemove 58 = .ok (.pop, 1) := by decide +kernel
theorem dX8_readsRemove_59 : decode cX8_readsRemove 59 = .ok (.iconst 1, 1) := by decide +kernel
theorem dX8_readsRemove_60 : decode cX8_readsRemove 60 = .ok (.ireturn, 1) := by decide +kernel
theorem dX8_readsSetting_0 : decode cX8_readsSetting 0 = .ok (.aload_n 0, 1) := by decide +kernel
theorem dX8_readsSetting_1 : decode cX8_readsSetting 1 = .ok (.iconst 0, 1) := by decide +kernel
theorem dX8_readsSetting_2 : decode cX8_readsSetting 2 = .ok (.iload_n 2, 1) := by decide +kernel
theorem dX8_readsSetting_3 : decode cX8_readsSetting 3 = .ok (.iload_n 3, 1) := by decide +kernel
theorem dX8_readsSetting_4 : decode cX8_readsSetting 4 = .ok (.invokevirtual 191, 3) := by decide +kernel
theorem dX8_readsSetting_7 : decode cX8_readsSetting 7 = .ok (.ifCond .eq 21, 3) := by decide +kernel
theorem dX8_readsSetting_10 : decode cX8_readsSetting 10 = .ok (.aload_n 0, 1) := by decide +kernel
theorem dX8_readsSetting_11 : decode cX8_readsSetting 11 = .ok (.aload_n 0, 1) := by decide +kernel
theorem dX8_readsSetting_12 : decode cX8_readsSetting 12 = .ok (.iload_n 1, 1) := by decide +kernel
theorem dX8_readsSetting_13 : decode cX8_readsSetting 13 = .ok (.aload_n 0, 1) := by decide +kernel
theorem dX8_readsSetting_14 : decode cX8_readsSetting 14 = .ok (.getfield 51, 3) := by decide +kernel
theorem dX8_readsSetting_17 : decode cX8_readsSetting 17 = .ok (.iconst 0, 1) := by decide +kernel
theorem dX8_readsSetting_18 : decode cX8_readsSetting 18 = .ok (.iaload, 1) := by decide +kernel
theorem dX8_readsSetting_19 : decode cX8_readsSetting 19 = .ok (.invokevirtual 218, 3) := by decide +kernel
theorem dX8_readsSetting_22 : decode cX8_readsSetting 22 = .ok (.invokevirtual 200, 3) := by decide +kernel
theorem dX8_readsSetting_25 : decode cX8_readsSetting 25 = .ok (.ifCond .ne 5, 3) := by decide +kernel
theorem dX8_readsSetting_28 : decode cX8_readsSetting 28 = .ok (.iconst 0, 1) := by decide +kernel
theorem dX8_readsSetting_29 : decode cX8_readsSetting 29 = .ok (.ireturn, 1) := by decide +kernel
theorem dX8_readsSetting_30 : decode cX8_readsSetting 30 = .ok (.aload_n 0, 1) := by decide +kernel
theorem dX8_readsSetting_31 : decode cX8_readsSetting 31 = .ok (.iload_n 1, 1) := by decide +kernel
theorem dX8_readsSetting_32 : decode cX8_readsSetting 32 = .ok (.aload_n 0, 1) := by decide +kernel
theorem dX8_readsSetting_33 : decode cX8_readsSetting 33 = .ok (.getfield 51, 3) := by decide +kernel
theorem dX8_readsSetting_36 : decode cX8_readsSetting 36 = .ok (.iconst 0, 1) := by decide +kernel
theorem dX8_readsSetting_37 : decode cX8_readsSetting 37 = .ok (.iaload, 1) := by decide +kernel
theorem dX8_readsSetting_38 : decode cX8_readsSetting 38 = .ok (.invokevirtual 145, 3) := by decide +kernel
theorem dX8_readsSetting_41 : decode cX8_readsSetting 41 = .ok (.pop, 1) := by decide +kernel
theorem dX8_readsSetting_42 : decode cX8_readsSetting 42 = .ok (.iconst 1, 1) := by decide +kernel
theorem dX8_readsSetting_43 : decode cX8_readsSetting 43 = .ok (.ireturn, 1) := by decide +kernel
theorem dX8_readsPulling_0 : decode cX8_readsPulling 0 = .ok (.aload_n 0, 1) := by decide +kernel
theorem dX8_readsPulling_1 : decode cX8_readsPulling 1 = .ok (.iconst 1, 1) := by decide +kernel
theorem dX8_readsPulling_2 : decode cX8_readsPulling 2 = .ok (.invokevirtual 200, 3) := by decide +kernel
theorem dX8_readsPulling_5 : decode cX8_readsPulling 5 = .ok (.ifCond .ne 5, 3) := by decide +kernel
theorem dX8_readsPulling_8 : decode cX8_readsPulling 8 = .ok (.iconst 0, 1) := by decide +kernel
theorem dX8_readsPulling_9 : decode cX8_readsPulling 9 = .ok (.ireturn, 1) := by decide +kernel
theorem dX8_readsPulling_10 : decode cX8_readsPulling 10 = .ok (.aload_n 0, 1) := by decide +kernel
theorem dX8_readsPulling_11 : decode cX8_readsPulling 11 = .ok (.getfield 7, 3) := by decide +kernel
theorem dX8_readsPulling_14 : decode cX8_readsPulling 14 = .ok (.iconst 3, 1) := by decide +kernel
theorem dX8_readsPulling_15 : decode cX8_readsPulling 15 = .ok (.iload_n 1, 1) := by decide +kernel
theorem dX8_readsPulling_16 : decode cX8_readsPulling 16 = .ok (.iastore, 1) := by decide +kernel
theorem dX8_readsPulling_17 : decode cX8_readsPulling 17 = .ok (.iconst 1, 1) := by decide +kernel
theorem dX8_readsPulling_18 : decode cX8_readsPulling 18 = .ok (.ireturn, 1) := by decide +kernel
theorem dX8_readsGrow_0 : decode cX8_readsGrow 0 = .ok (.aload_n 0, 1) := by decide +kernel
theorem dX8_readsGrow_1 : decode cX8_readsGrow 1 = .ok (.aload_n 0, 1) := by decide +kernel
theorem dX8_readsGrow_2 : decode cX8_readsGrow 2 = .ok (.invokevirtual 221, 3) := by decide +kernel
theorem dX8_readsGrow_5 : decode cX8_readsGrow 5 = .ok (.invokevirtual 200, 3) := by decide +kernel
theorem dX8_readsGrow_8 : decode cX8_readsGrow 8 = .ok (.ifCond .ne 5, 3) := by decide +kernel
theorem dX8_readsGrow_11 : decode cX8_readsGrow 11 = .ok (.iconst 0, 1) := by decide +kernel
theorem dX8_readsGrow_12 : decode cX8_readsGrow 12 = .ok (.ireturn, 1) := by decide +kernel
theorem dX8_readsGrow_13 : decode cX8_readsGrow 13 = .ok (.aload_n 0, 1) := by decide +kernel
theorem dX8_readsGrow_14 : decode cX8_readsGrow 14 = .ok (.invokevirtual 224, 3) := by decide +kernel
theorem dX8_readsGrow_17 : decode cX8_readsGrow 17 = .ok (.pop, 1) := by decide +kernel
theorem dX8_readsGrow_18 : decode cX8_readsGrow 18 = .ok (.iconst 1, 1) := by decide +kernel
theorem dX8_readsGrow_19 : decode cX8_readsGrow 19 = .ok (.ireturn, 1) := by decide +kernel
theorem dX8_readsClear_0 : decode cX8_readsClear 0 = .ok (.aload_n 0, 1) := by decide +kernel
theorem dX8_readsClear_1 : decode cX8_readsClear 1 = .ok (.iconst 1, 1) := by decide +kernel
theorem dX8_readsClear_2 : decode cX8_readsClear 2 = .ok (.invokevirtual 200, 3) := by decide +kernel
theorem dX8_readsClear_5 : decode cX8_readsClear 5 = .ok (.ifCond .ne 5, 3) := by decide +kernel
theorem dX8_readsClear_8 : decode cX8_readsClear 8 = .ok (.iconst 0, 1) := by decide +kernel
theorem dX8_readsClear_9 : decode cX8_readsClear 9 = .ok (.ireturn, 1) := by decide +kernel
theorem dX8_readsClear_10 : decode cX8_readsClear 10 = .ok (.aload_n 0, 1) := by decide +kernel
theorem dX8_readsClear_11 : decode cX8_readsClear 11 = .ok (.invokevirtual 227, 3) := by decide +kernel
theorem dX8_readsClear_14 : decode cX8_readsClear 14 = .ok (.pop, 1) := by decide +kernel
theorem dX8_readsClear_15 : decode cX8_readsClear 15 = .ok (.iconst 1, 1) := by decide +kernel
theorem dX8_readsClear_16 : decode cX8_readsClear 16 = .ok (.ireturn, 1) := by decide +kernel
theorem dX8_readsRepeat_0 : decode cX8_readsRepeat 0 = .ok (.aload_n 0, 1) := by decide +kernel
theorem dX8_readsRepeat_1 : decode cX8_readsRepeat 1 = .ok (.iconst 0, 1) := by decide +kernel
theorem dX8_readsRepeat_2 : decode cX8_readsRepeat 2 = .ok (.iconst 1, 1) := by decide +kernel
theorem dX8_readsRepeat_3 : decode cX8_readsRepeat 3 = .ok (.bipush 20, 2) := by decide +kernel
theorem dX8_readsRepeat_5 : decode cX8_readsRepeat 5 = .ok (.invokevirtual 191, 3) := by decide +kernel
theorem dX8_readsRepeat_8 : decode cX8_readsRepeat 8 = .ok (.ifCond .eq 11, 3) := by decide +kernel
theorem dX8_readsRepeat_11 : decode cX8_readsRepeat 11 = .ok (.aload_n 0, 1) := by decide +kernel
theorem dX8_readsRepeat_12 : decode cX8_readsRepeat 12 = .ok (.iconst 4, 1) := by decide +kernel
theorem dX8_readsRepeat_13 : decode cX8_readsRepeat 13 = .ok (.invokevirtual 185, 3) := by decide +kernel
theorem dX8_readsRepeat_16 : decode cX8_readsRepeat 16 = .ok (.ifCond .ne 5, 3) := by decide +kernel
theorem dX8_readsRepeat_19 : decode cX8_readsRepeat 19 = .ok (.iconst 0, 1) := by decide +kernel
theorem dX8_readsRepeat_20 : decode cX8_readsRepeat 20 = .ok (.ireturn, 1) := by decide +kernel
theorem dX8_readsRepeat_21 : decode cX8_readsRepeat 21 = .ok (.aload_n 0, 1) := by decide +kernel
theorem dX8_readsRepeat_22 : decode cX8_readsRepeat 22 = .ok (.getfield 51, 3) := by decide +kernel
theorem dX8_readsRepeat_25 : decode cX8_readsRepeat 25 = .ok (.iconst 0, 1) := by decide +kernel
theorem dX8_readsRepeat_26 : decode cX8_readsRepeat 26 = .ok (.iaload, 1) := by decide +kernel
theorem dX8_readsRepeat_27 : decode cX8_readsRepeat 27 = .ok (.istore_n 2, 1) := by decide +kernel
theorem dX8_readsRepeat_28 : decode cX8_readsRepeat 28 = .ok (.aload_n 0, 1) := by decide +kernel
theorem dX8_readsRepeat_29 : decode cX8_readsRepeat 29 = .ok (.getfield 164, 3) := by decide +kernel
theorem dX8_readsRepeat_32 : decode cX8_readsRepeat 32 = .ok (.istore_n 3, 1) := by decide +kernel
theorem dX8_readsRepeat_33 : decode cX8_readsRepeat 33 = .ok (.iconst 0, 1) := by decide +kernel
theorem dX8_readsRepeat_34 : decode cX8_readsRepeat 34 = .ok (.istore 4, 2) := by decide +kernel
theorem dX8_readsRepeat_36 : decode cX8_readsRepeat 36 = .ok (.iload 4, 2) := by decide +kernel
theorem dX8_readsRepeat_38 : decode cX8_readsRepeat 38 = .ok (.iload_n 2, 1) := by decide +kernel
theorem dX8_readsRepeat_39 : decode cX8_readsRepeat 39 = .ok (.if_icmp .ge 45, 3) := by decide +kernel
theorem dX8_readsRepeat_42 : decode cX8_readsRepeat 42 = .ok (.aload_n 0, 1) := by decide +kernel
theorem dX8_readsRepeat_43 : decode cX8_readsRepeat 43 = .ok (.iload_n 3, 1) := by decide +kernel
theorem dX8_readsRepeat_44 : decode cX8_readsRepeat 44 = .ok (.putfield 164, 3) := by decide +kernel
theorem dX8_readsRepeat_47 : decode cX8_readsRepeat 47 = .ok (.aload_n 0, 1) := by decide +kernel
theorem dX8_readsRepeat_48 : decode cX8_readsRepeat 48 = .ok (.invokevirtual 188, 3) := by decide +kernel
theorem dX8_readsRepeat_51 : decode cX8_readsRepeat 51 = .ok (.aload_n 0, 1) := by decide +kernel
theorem dX8_readsRepeat_52 : decode cX8_readsRepeat 52 = .ok (.getfield 170, 3) := by decide +kernel
theorem dX8_readsRepeat_55 : decode cX8_readsRepeat 55 = .ok (.iconst 5, 1) := by decide +kernel
theorem dX8_readsRepeat_56 : decode cX8_readsRepeat 56 = .ok (.if_icmp .eq 22, 3) := by decide +kernel
theorem dX8_readsRepeat_59 : decode cX8_readsRepeat 59 = .ok (.aload_n 0, 1) := by decide +kernel
theorem dX8_readsRepeat_60 : decode cX8_readsRepeat 60 = .ok (.iload_n 1, 1) := by decide +kernel
theorem dX8_readsRepeat_61 : decode cX8_readsRepeat 61 = .ok (.iconst 1, 1) := by decide +kernel
theorem dX8_readsRepeat_62 : decode cX8_readsRepeat 62 = .ok (.iadd, 1) := by decide +kernel
theorem dX8_readsRepeat_63 : decode cX8_readsRepeat 63 = .ok (.invokevirtual 230, 3) := by decide +kernel
theorem dX8_readsRepeat_66 : decode cX8_readsRepeat 66 = .ok (.ifCond .ne 5, 3) := by decide +kernel
theorem dX8_readsRepeat_69 : decode cX8_readsRepeat 69 = .ok (.iconst 0, 1) := by decide +kernel
theorem dX8_readsRepeat_70 : decode cX8_readsRepeat 70 = .ok (.ireturn, 1) := by decide +kernel
theorem dX8_readsRepeat_71 : decode cX8_readsRepeat 71 = .ok (.aload_n 0, 1) := by decide +kernel
theorem dX8_readsRepeat_72 : decode cX8_readsRepeat 72 = .ok (.invokevirtual 188, 3) := by decide +kernel
theorem dX8_readsRepeat_75 : decode cX8_readsRepeat 75 = .ok (.goto (-24), 3) := by decide +kernel
theorem dX8_readsRepeat_78 : decode cX8_readsRepeat 78 = .ok (.iinc 4 1, 3) := by decide +kernel
theorem dX8_readsRepeat_81 : decode cX8_readsRepeat 81 = .ok (.goto (-45), 3) := by decide +kernel
theorem dX8_readsRepeat_84 : decode cX8_readsRepeat 84 = .ok (.aload_n 0, 1) := by decide +kernel
theorem dX8_readsRepeat_85 : decode cX8_readsRepeat 85 = .ok (.invokevirtual 188, 3) := by decide +kernel
theorem dX8_readsRepeat_88 : decode cX8_readsRepeat 88 = .ok (.aload_n 0, 1) := by decide +kernel
theorem dX8_readsRepeat_89 : decode cX8_readsRepeat 89 = .ok (.iconst 1, 1) := by decide +kernel
theorem dX8_readsRepeat_90 : decode cX8_readsRepeat 90 = .ok (.invokevirtual 185, 3) := by decide +kernel
theorem dX8_readsRepeat_93 : decode cX8_readsRepeat 93 = .ok (.ireturn, 1) := by decide +kernel
theorem dX8_wordAhead_0 : decode cX8_wordAhead 0 = .ok (.aload_n 0, 1) := by decide +kernel
theorem dX8_wordAhead_1 : decode cX8_wordAhead 1 = .ok (.ldc 233, 2) := by decide +kernel
theorem dX8_wordAhead_3 : decode cX8_wordAhead 3 = .ok (.invokevirtual 235, 3) := by decide +kernel
theorem dX8_wordAhead_6 : decode cX8_wordAhead 6 = .ok (.ifCond .eq 7, 3) := by decide +kernel
theorem dX8_wordAhead_9 : decode cX8_wordAhead 9 = .ok (.iconst 0, 1) := by decide +kernel
theorem dX8_wordAhead_10 : decode cX8_wordAhead 10 = .ok (.goto 72, 3) := by decide +kernel
theorem dX8_wordAhead_13 : decode cX8_wordAhead 13 = .ok (.aload_n 0, 1) := by decide +kernel
theorem dX8_wordAhead_14 : decode cX8_wordAhead 14 = .ok (.ldc 239, 2) := by decide +kernel
theorem dX8_wordAhead_16 : decode cX8_wordAhead 16 = .ok (.invokevirtual 235, 3) := by decide +kernel
theorem dX8_wordAhead_19 : decode cX8_wordAhead 19 = .ok (.ifCond .eq 7, 3) := by decide +kernel
theorem dX8_wordAhead_22 : decode cX8_wordAhead 22 = .ok (.iconst 1, 1) := by decide +kernel
theorem dX8_wordAhead_23 : decode cX8_wordAhead 23 = .ok (.goto 59, 3) := by decide +kernel
theorem dX8_wordAhead_26 : decode cX8_wordAhead 26 = .ok (.aload_n 0, 1) := by decide +kernel
theorem dX8_wordAhead_27 : decode cX8_wordAhead 27 = .ok (.ldc 241, 2) := by decide +kernel
theorem dX8_wordAhead_29 : decode cX8_wordAhead 29 = .ok (.invokevirtual 235, 3) := by decide +kernel
theorem dX8_wordAhead_32 : decode cX8_wordAhead 32 = .ok (.ifCond .eq 7, 3) := by decide +kernel
theorem dX8_wordAhead_35 : decode cX8_wordAhead 35 = .ok (.iconst 2, 1) := by decide +kernel
theorem dX8_wordAhead_36 : decode cX8_wordAhead 36 = .ok (.goto 46, 3) := by decide +kernel
theorem dX8_wordAhead_39 : decode cX8_wordAhead 39 = .ok (.aload_n 0, 1) := by decide +kernel
theorem dX8_wordAhead_40 : decode cX8_wordAhead 40 = .ok (.ldc 243, 2) := by decide +kernel
theorem dX8_wordAhead_42 : decode cX8_wordAhead 42 = .ok (.invokevirtual 235, 3) := by decide +kernel
theorem dX8_wordAhead_45 : decode cX8_wordAhead 45 = .ok (.ifCond .eq 7, 3) := by decide +kernel
theorem dX8_wordAhead_48 : decode cX8_wordAhead 48 = .ok (.iconst 3, 1) := by decide +kernel
theorem dX8_wordAhead_49 : decode cX8_wordAhead 49 = .ok (.goto 33, 3) := by decide +kernel
theorem dX8_wordAhead_52 : decode cX8_wordAhead 52 = .ok (.aload_n 0, 1) := by decide +kernel
theorem dX8_wordAhead_53 : decode cX8_wordAhead 53 = .ok (.ldc 245, 2) := by decide +kernel
theorem dX8_wordAhead_55 : decode cX8_wordAhead 55 = .ok (.invokevirtual 235, 3) := by decide +kernel
theorem dX8_wordAhead_58 : decode cX8_wordAhead 58 = .ok (.ifCond .eq 7, 3) := by decide +kernel
theorem dX8_wordAhead_61 : decode cX8_wordAhead 61 = .ok (.iconst 4, 1) := by decide +kernel
theorem dX8_wordAhead_62 : decode cX8_wordAhead 62 = .ok (.goto 20, 3) := by decide +kernel
theorem dX8_wordAhead_65 : decode cX8_wordAhead 65 = .ok (.aload_n 0, 1) := by decide +kernel
theorem dX8_wordAhead_66 : decode cX8_wordAhead 66 = .ok (.ldc 247, 2) := by decide +kernel
theorem dX8_wordAhead_68 : decode cX8_wordAhead 68 = .ok (.invokevirtual 235, 3) := by decide +kernel
theorem dX8_wordAhead_71 : decode cX8_wordAhead 71 = .ok (.ifCond .eq 7, 3) := by decide +kernel
theorem dX8_wordAhead_74 : decode cX8_wordAhead 74 = .ok (.iconst 5, 1) := by decide +kernel
theorem dX8_wordAhead_75 : decode cX8_wordAhead 75 = .ok (.goto 7, 3) := by decide +kernel
theorem dX8_wordAhead_78 : decode cX8_wordAhead 78 = .ok (.aload_n 0, 1) := by decide +kernel
theorem dX8_wordAhead_79 : decode cX8_wordAhead 79 = .ok (.invokevirtual 249, 3) := by decide +kernel
theorem dX8_wordAhead_82 : decode cX8_wordAhead 82 = .ok (.ireturn, 1) := by decide +kernel
theorem dX8_laterWord_0 : decode cX8_laterWord 0 = .ok (.aload_n 0, 1) := by decide +kernel
theorem dX8_laterWord_1 : decode cX8_laterWord 1 = .ok (.ldc 252, 2) := by decide +kernel
theorem dX8_laterWord_3 : decode cX8_laterWord 3 = .ok (.invokevirtual 235, 3) := by decide +kernel
theorem dX8_laterWord_6 : decode cX8_laterWord 6 = .ok (.ifCond .eq 8, 3) := by decide +kernel
theorem dX8_laterWord_9 : decode cX8_laterWord 9 = .ok (.bipush 6, 2) := by decide +kernel
theorem dX8_laterWord_11 : decode cX8_laterWord 11 = .ok (.goto 63, 3) := by decide +kernel
theorem dX8_laterWord_14 : decode cX8_laterWord 14 = .ok (.aload_n 0, 1) := by decide +kernel
theorem dX8_laterWord_15 : decode cX8_laterWord 15 = .ok (.ldc 254, 2) := by decide +kernel
theorem dX8_laterWord_17 : decode cX8_laterWord 17 = .ok (.invokevirtual 235, 3) := by decide +kernel
theorem dX8_laterWord_20 : decode cX8_laterWord 20 = .ok (.ifCond .eq 8, 3) := by decide +kernel
theorem dX8_laterWord_23 : decode cX8_laterWord 23 = .ok (.bipush 7, 2) := by decide +kernel
theorem dX8_laterWord_25 : decode cX8_laterWord 25 = .ok (.goto 49, 3) := by decide +kernel
theorem dX8_laterWord_28 : decode cX8_laterWord 28 = .ok (.aload_n 0, 1) := by decide +kernel
theorem dX8_laterWord_29 : decode cX8_laterWord 29 = .ok (.ldc_w 256, 3) := by decide +kernel
theorem dX8_laterWord_32 : decode cX8_laterWord 32 = .ok (.invokevirtual 235, 3) := by decide +kernel
theorem dX8_laterWord_35 : decode cX8_laterWord 35 = .ok (.ifCond .eq 8, 3) := by decide +kernel
theorem dX8_laterWord_38 : decode cX8_laterWord 38 = .ok (.bipush 8, 2) := by decide +kernel
theorem dX8_laterWord_40 : decode cX8_laterWord 40 = .ok (.goto 34, 3) := by decide +kernel
theorem dX8_laterWord_43 : decode cX8_laterWord 43 = .ok (.aload_n 0, 1) := by decide +kernel
theorem dX8_laterWord_44 : decode cX8_laterWord 44 = .ok (.ldc_w 258, 3) := by decide +kernel
theorem dX8_laterWord_47 : decode cX8_laterWord 47 = .ok (.invokevirtual 235, 3) := by decide +kernel
theorem dX8_laterWord_50 : decode cX8_laterWord 50 = .ok (.ifCond .eq 8, 3) := by decide +kernel
theorem dX8_laterWord_53 : decode cX8_laterWord 53 = .ok (.bipush 9, 2) := by decide +kernel
theorem dX8_laterWord_55 : decode cX8_laterWord 55 = .ok (.goto 19, 3) := by decide +kernel
theorem dX8_laterWord_58 : decode cX8_laterWord 58 = .ok (.aload_n 0, 1) := by decide +kernel
theorem dX8_laterWord_59 : decode cX8_laterWord 59 = .ok (.ldc_w 260, 3) := by decide +kernel
theorem dX8_laterWord_62 : decode cX8_laterWord 62 = .ok (.invokevirtual 235, 3) := by decide +kernel
theorem dX8_laterWord_65 : decode cX8_laterWord 65 = .ok (.ifCond .eq 8, 3) := by decide +kernel
theorem dX8_laterWord_68 : decode cX8_laterWord 68 = .ok (.bipush 10, 2) := by decide +kernel
theorem dX8_laterWord_70 : decode cX8_laterWord 70 = .ok (.goto 4, 3) := by decide +kernel
theorem dX8_laterWord_73 : decode cX8_laterWord 73 = .ok (.iconst (-1), 1) := by decide +kernel
theorem dX8_laterWord_74 : decode cX8_laterWord 74 = .ok (.ireturn, 1) := by decide +kernel
theorem dX8_readsCommand_0 : decode cX8_readsCommand 0 = .ok (.aload_n 0, 1) := by decide +kernel
theorem dX8_readsCommand_1 : decode cX8_readsCommand 1 = .ok (.invokevirtual 262, 3) := by decide +kernel
theorem dX8_readsCommand_4 : decode cX8_readsCommand 4 = .ok (.istore_n 2, 1) := by decide +kernel
theorem dX8_readsCommand_5 : decode cX8_readsCommand 5 = .ok (.iload_n 2, 1) := by decide +kernel
theorem dX8_readsCommand_6 : decode cX8_readsCommand 6 = .ok (.iconst (-1), 1) := by decide +kernel
theorem dX8_readsCommand_7 : decode cX8_readsCommand 7 = .ok (.if_icmp .ne 9, 3) := by decide +kernel
theorem dX8_readsCommand_10 : decode cX8_readsCommand 10 = .ok (.aload_n 0, 1) := by decide +kernel
theorem dX8_readsCommand_11 : decode cX8_readsCommand 11 = .ok (.iconst 1, 1) := by decide +kernel
theorem dX8_readsCommand_12 : decode cX8_readsCommand 12 = .ok (.invokevirtual 182, 3) := by decide +kernel
theorem dX8_readsCommand_15 : decode cX8_readsCommand 15 = .ok (.ireturn, 1) := by decide +kernel
theorem dX8_readsCommand_16 : decode cX8_readsCommand 16 = .ok (.iload_n 2, 1) := by decide +kernel
theorem dX8_readsCommand_17 : decode cX8_readsCommand 17 = .ok (.bipush 10, 2) := by decide +kernel
theorem dX8_readsCommand_19 : decode cX8_readsCommand 19 = .ok (.if_icmp .ne 24, 3) := by decide +kernel
theorem dX8_readsCommand_22 : decode cX8_readsCommand 22 = .ok (.iload_n 1, 1) := by decide +kernel
theorem dX8_readsCommand_23 : decode cX8_readsCommand 23 = .ok (.iconst 2, 1) := by decide +kernel
theorem dX8_readsCommand_24 : decode cX8_readsCommand 24 = .ok (.if_icmp .ne 9, 3) := by decide +kernel
theorem dX8_readsCommand_27 : decode cX8_readsCommand 27 = .ok (.aload_n 0, 1) := by decide +kernel
theorem dX8_readsCommand_28 : decode cX8_readsCommand 28 = .ok (.iconst 4, 1) := by decide +kernel
theorem dX8_readsCommand_29 : decode cX8_readsCommand 29 = .ok (.invokevirtual 182, 3) := by decide +kernel
theorem dX8_readsCommand_32 : decode cX8_readsCommand 32 = .ok (.ireturn, 1) := by decide +kernel
theorem dX8_readsCommand_33 : decode cX8_readsCommand 33 = .ok (.aload_n 0, 1) := by decide +kernel
theorem dX8_readsCommand_34 : decode cX8_readsCommand 34 = .ok (.invokevirtual 188, 3) := by decide +kernel
theorem dX8_readsCommand_37 : decode cX8_readsCommand 37 = .ok (.aload_n 0, 1) := by decide +kernel
theorem dX8_readsCommand_38 : decode cX8_readsCommand 38 = .ok (.iload_n 1, 1) := by decide +kernel
theorem dX8_readsCommand_39 : decode cX8_readsCommand 39 = .ok (.invokevirtual 265, 3) := by decide +kernel
theorem dX8_readsCommand_42 : decode cX8_readsCommand 42 = .ok (.ireturn, 1) := by decide +kernel
theorem dX8_readsCommand_43 : decode cX8_readsCommand 43 = .ok (.aload_n 0, 1) := by decide +kernel
theorem dX8_readsCommand_44 : decode cX8_readsCommand 44 = .ok (.getfield 268, 3) := by decide +kernel
theorem dX8_readsCommand_47 : decode cX8_readsCommand 47 = .ok (.sipush 200, 3) := by decide +kernel
theorem dX8_readsCommand_50 : decode cX8_readsCommand 50 = .ok (.if_icmp .ne 9, 3) := by decide +kernel
theorem dX8_readsCommand_53 : decode cX8_readsCommand 53 = .ok (.aload_n 0, 1) := by decide +kernel
theorem dX8_readsCommand_54 : decode cX8_readsCommand 54 = .ok (.iconst 5, 1) := by decide +kernel
theorem dX8_readsCommand_55 : decode cX8_readsCommand 55 = .ok (.invokevirtual 182, 3) := by decide +kernel
theorem dX8_readsCommand_58 : decode cX8_readsCommand 58 = .ok (.ireturn, 1) := by decide +kernel
theorem dX8_readsCommand_59 : decode cX8_readsCommand 59 = .ok (.aload_n 0, 1) := by decide +kernel
theorem dX8_readsCommand_60 : decode cX8_readsCommand 60 = .ok (.dup, 1) := by decide +kernel
theorem dX8_readsCommand_61 : decode cX8_readsCommand 61 = .ok (.getfield 268, 3) := by decide +kernel
theorem dX8_readsCommand_64 : decode cX8_readsCommand 64 = .ok (.iconst 1, 1) := by decide +kernel
theorem dX8_readsCommand_65 : decode cX8_readsCommand 65 = .ok (.iadd, 1) := by decide +kernel
theorem dX8_readsCommand_66 : decode cX8_readsCommand 66 = .ok (.putfield 268, 3) := by decide +kernel
theorem dX8_readsCommand_69 : decode cX8_readsCommand 69 = .ok (.aload_n 0, 1) := by decide +kernel
theorem dX8_readsCommand_70 : decode cX8_readsCommand 70 = .ok (.invokevirtual 188, 3) := by decide +kernel
theorem dX8_readsCommand_73 : decode cX8_readsCommand 73 = .ok (.aload_n 0, 1) := by decide +kernel
theorem dX8_readsCommand_74 : decode cX8_readsCommand 74 = .ok (.iload_n 2, 1) := by decide +kernel
theorem dX8_readsCommand_75 : decode cX8_readsCommand 75 = .ok (.invokevirtual 271, 3) := by decide +kernel
theorem dX8_readsCommand_78 : decode cX8_readsCommand 78 = .ok (.ireturn, 1) := by decide +kernel
theorem dX8_readsWord_0 : decode cX8_readsWord 0 = .ok (.iload_n 1, 1) := by decide +kernel
theorem dX8_readsWord_1 : decode cX8_readsWord 1 = .ok (.tableswitch 106 0 8 #[51, 56, 61, 66, 71, 80, 89, 95, 101], 51) := by decide +kernel
theorem dX8_readsWord_52 : decode cX8_readsWord 52 = .ok (.aload_n 0, 1) := by decide +kernel
theorem dX8_readsWord_53 : decode cX8_readsWord 53 = .ok (.invokevirtual 274, 3) := by decide +kernel
theorem dX8_readsWord_56 : decode cX8_readsWord 56 = .ok (.ireturn, 1) := by decide +kernel
theorem dX8_readsWord_57 : decode cX8_readsWord 57 = .ok (.aload_n 0, 1) := by decide +kernel
theorem dX8_readsWord_58 : decode cX8_readsWord 58 = .ok (.invokevirtual 277, 3) := by decide +kernel
theorem dX8_readsWord_61 : decode cX8_readsWord 61 = .ok (.ireturn, 1) := by decide +kernel
theorem dX8_readsWord_62 : decode cX8_readsWord 62 = .ok (.aload_n 0, 1) := by decide +kernel
theorem dX8_readsWord_63 : decode cX8_readsWord 63 = .ok (.invokevirtual 280, 3) := by decide +kernel
theorem dX8_readsWord_66 : decode cX8_readsWord 66 = .ok (.ireturn, 1) := by decide +kernel
theorem dX8_readsWord_67 : decode cX8_readsWord 67 = .ok (.aload_n 0, 1) := by decide +kernel
theorem dX8_readsWord_68 : decode cX8_readsWord 68 = .ok (.invokevirtual 283, 3) := by decide +kernel
theorem dX8_readsWord_71 : decode cX8_readsWord 71 = .ok (.ireturn, 1) := by decide +kernel
theorem dX8_readsWord_72 : decode cX8_readsWord 72 = .ok (.aload_n 0, 1) := by decide +kernel
theorem dX8_readsWord_73 : decode cX8_readsWord 73 = .ok (.iconst 1, 1) := by decide +kernel
theorem dX8_readsWord_74 : decode cX8_readsWord 74 = .ok (.iconst 2, 1) := by decide +kernel
theorem dX8_readsWord_75 : decode cX8_readsWord 75 = .ok (.bipush 6, 2) := by decide +kernel
theorem dX8_readsWord_77 : decode cX8_readsWord 77 = .ok (.invokevirtual 286, 3) := by decide +kernel
theorem dX8_readsWord_80 : decode cX8_readsWord 80 = .ok (.ireturn, 1) := by decide +kernel
theorem dX8_readsWord_81 : decode cX8_readsWord 81 = .ok (.aload_n 0, 1) := by decide +kernel
theorem dX8_readsWord_82 : decode cX8_readsWord 82 = .ok (.iconst 2, 1) := by decide +kernel
theorem dX8_readsWord_83 : decode cX8_readsWord 83 = .ok (.iconst 1, 1) := by decide +kernel
theorem dX8_readsWord_84 : decode cX8_readsWord 84 = .ok (.bipush 99, 2) := by decide +kernel
theorem dX8_readsWord_86 : decode cX8_readsWord 86 = .ok (.invokevirtual 286, 3) := by decide +kernel
theorem dX8_readsWord_89 : decode cX8_readsWord 89 = .ok (.ireturn, 1) := by decide +kernel
theorem dX8_readsWord_90 : decode cX8_readsWord 90 = .ok (.aload_n 0, 1) := by decide +kernel
theorem dX8_readsWord_91 : decode cX8_readsWord 91 = .ok (.iconst 1, 1) := by decide +kernel
theorem dX8_readsWord_92 : decode cX8_readsWord 92 = .ok (.invokevirtual 289, 3) := by decide +kernel
theorem dX8_readsWord_95 : decode cX8_readsWord 95 = .ok (.ireturn, 1) := by decide +kernel
theorem dX8_readsWord_96 : decode cX8_readsWord 96 = .ok (.aload_n 0, 1) := by decide +kernel
theorem dX8_readsWord_97 : decode cX8_readsWord 97 = .ok (.iconst 0, 1) := by decide +kernel
theorem dX8_readsWord_98 : decode cX8_readsWord 98 = .ok (.invokevirtual 289, 3) := by decide +kernel
theorem dX8_readsWord_101 : decode cX8_readsWord 101 = .ok (.ireturn, 1) := by decide +kernel
theorem dX8_readsWord_102 : decode cX8_readsWord 102 = .ok (.aload_n 0, 1) := by decide +kernel
theorem dX8_readsWord_103 : decode cX8_readsWord 103 = .ok (.invokevirtual 292, 3) := by decide +kernel
theorem dX8_readsWord_106 : decode cX8_readsWord 106 = .ok (.ireturn, 1) := by decide +kernel
theorem dX8_readsWord_107 : decode cX8_readsWord 107 = .ok (.aload_n 0, 1) := by decide +kernel
theorem dX8_readsWord_108 : decode cX8_readsWord 108 = .ok (.invokevirtual 295, 3) := by decide +kernel
theorem dX8_readsWord_111 : decode cX8_readsWord 111 = .ok (.ireturn, 1) := by decide +kernel
theorem dX8_readsHead_0 : decode cX8_readsHead 0 = .ok (.aload_n 0, 1) := by decide +kernel
theorem dX8_readsHead_1 : decode cX8_readsHead 1 = .ok (.ldc_w 298, 3) := by decide +kernel
theorem dX8_readsHead_4 : decode cX8_readsHead 4 = .ok (.invokevirtual 235, 3) := by decide +kernel
theorem dX8_readsHead_7 : decode cX8_readsHead 7 = .ok (.ifCond .ne 9, 3) := by decide +kernel
theorem dX8_readsHead_10 : decode cX8_readsHead 10 = .ok (.aload_n 0, 1) := by decide +kernel
theorem dX8_readsHead_11 : decode cX8_readsHead 11 = .ok (.iconst 1, 1) := by decide +kernel
theorem dX8_readsHead_12 : decode cX8_readsHead 12 = .ok (.invokevirtual 182, 3) := by decide +kernel
theorem dX8_readsHead_15 : decode cX8_readsHead 15 = .ok (.ireturn, 1) := by decide +kernel
theorem dX8_readsHead_16 : decode cX8_readsHead 16 = .ok (.aload_n 0, 1) := by decide +kernel
theorem dX8_readsHead_17 : decode cX8_readsHead 17 = .ok (.invokevirtual 188, 3) := by decide +kernel
theorem dX8_readsHead_20 : decode cX8_readsHead 20 = .ok (.aload_n 0, 1) := by decide +kernel
theorem dX8_readsHead_21 : decode cX8_readsHead 21 = .ok (.getfield 170, 3) := by decide +kernel
theorem dX8_readsHead_24 : decode cX8_readsHead 24 = .ok (.iconst 3, 1) := by decide +kernel
theorem dX8_readsHead_25 : decode cX8_readsHead 25 = .ok (.if_icmp .ne 19, 3) := by decide +kernel
theorem dX8_readsHead_28 : decode cX8_readsHead 28 = .ok (.aload_n 0, 1) := by decide +kernel
theorem dX8_readsHead_29 : decode cX8_readsHead 29 = .ok (.getfield 176, 3) := by decide +kernel
theorem dX8_readsHead_32 : decode cX8_readsHead 32 = .ok (.invokestatic 300, 3) := by decide +kernel
theorem dX8_readsHead_35 : decode cX8_readsHead 35 = .ok (.ifCond .ne 9, 3) := by decide +kernel
theorem dX8_readsHead_38 : decode cX8_readsHead 38 = .ok (.aload_n 0, 1) := by decide +kernel
theorem dX8_readsHead_39 : decode cX8_readsHead 39 = .ok (.iconst 2, 1) := by decide +kernel
theorem dX8_readsHead_40 : decode cX8_readsHead 40 = .ok (.invokevirtual 182, 3) := by decide +kernel
theorem dX8_readsHead_43 : decode cX8_readsHead 43 = .ok (.ireturn, 1) := by decide +kernel
theorem dX8_readsHead_44 : decode cX8_readsHead 44 = .ok (.aload_n 0, 1) := by decide +kernel
theorem dX8_readsHead_45 : decode cX8_readsHead 45 = .ok (.iconst 0, 1) := by decide +kernel
theorem dX8_readsHead_46 : decode cX8_readsHead 46 = .ok (.bipush 8, 2) := by decide +kernel
theorem dX8_readsHead_48 : decode cX8_readsHead 48 = .ok (.bipush 64, 2) := by decide +kernel
theorem dX8_readsHead_50 : decode cX8_readsHead 50 = .ok (.invokevirtual 191, 3) := by decide +kernel
theorem dX8_readsHead_53 : decode cX8_readsHead 53 = .ok (.ifCond .eq 37, 3) := by decide +kernel
theorem dX8_readsHead_56 : decode cX8_readsHead 56 = .ok (.aload_n 0, 1) := by decide +kernel
theorem dX8_readsHead_57 : decode cX8_readsHead 57 = .ok (.iconst 1, 1) := by decide +kernel
theorem dX8_readsHead_58 : decode cX8_readsHead 58 = .ok (.iconst 2, 1) := by decide +kernel
theorem dX8_readsHead_59 : decode cX8_readsHead 59 = .ok (.bipush 6, 2) := by decide +kernel
theorem dX8_readsHead_61 : decode cX8_readsHead 61 = .ok (.invokevirtual 191, 3) := by decide +kernel
theorem dX8_readsHead_64 : decode cX8_readsHead 64 = .ok (.ifCond .eq 26, 3) := by decide +kernel
theorem dX8_readsHead_67 : decode cX8_readsHead 67 = .ok (.aload_n 0, 1) := by decide +kernel
theorem dX8_readsHead_68 : decode cX8_readsHead 68 = .ok (.iconst 2, 1) := by decide +kernel
theorem dX8_readsHead_69 : decode cX8_readsHead 69 = .ok (.iconst 1, 1) := by decide +kernel
theorem dX8_readsHead_70 : decode cX8_readsHead 70 = .ok (.bipush 99, 2) := by decide +kernel
theorem dX8_readsHead_72 : decode cX8_readsHead 72 = .ok (.invokevirtual 191, 3) := by decide +kernel
theorem dX8_readsHead_75 : decode cX8_readsHead 75 = .ok (.ifCond .eq 15, 3) := by decide +kernel
theorem dX8_readsHead_78 : decode cX8_readsHead 78 = .ok (.aload_n 0, 1) := by decide +kernel
theorem dX8_readsHead_79 : decode cX8_readsHead 79 = .ok (.iconst 1, 1) := by decide +kernel
theorem dX8_readsHead_80 : decode cX8_readsHead 80 = .ok (.invokevirtual 185, 3) := by decide +kernel
theorem dX8_readsHead_83 : decode cX8_readsHead 83 = .ok (.ifCond .eq 7, 3) := by decide +kernel
theorem dX8_readsHead_86 : decode cX8_readsHead 86 = .ok (.iconst 1, 1) := by decide +kernel
theorem dX8_readsHead_87 : decode cX8_readsHead 87 = .ok (.goto 4, 3) := by decide +kernel
theorem dX8_readsHead_90 : decode cX8_readsHead 90 = .ok (.iconst 0, 1) := by decide +kernel
theorem dX8_readsHead_91 : decode cX8_readsHead 91 = .ok (.ireturn, 1) := by decide +kernel
theorem dX8_readsAll_0 : decode cX8_readsAll 0 = .ok (.aload_n 0, 1) := by decide +kernel
theorem dX8_readsAll_1 : decode cX8_readsAll 1 = .ok (.invokevirtual 303, 3) := by decide +kernel
theorem dX8_readsAll_4 : decode cX8_readsAll 4 = .ok (.ifCond .ne 5, 3) := by decide +kernel
theorem dX8_readsAll_7 : decode cX8_readsAll 7 = .ok (.iconst 0, 1) := by decide +kernel
theorem dX8_readsAll_8 : decode cX8_readsAll 8 = .ok (.ireturn, 1) := by decide +kernel
theorem dX8_readsAll_9 : decode cX8_readsAll 9 = .ok (.aload_n 0, 1) := by decide +kernel
theorem dX8_readsAll_10 : decode cX8_readsAll 10 = .ok (.getfield 7, 3) := by decide +kernel
theorem dX8_readsAll_13 : decode cX8_readsAll 13 = .ok (.iconst 0, 1) := by decide +kernel
theorem dX8_readsAll_14 : decode cX8_readsAll 14 = .ok (.aload_n 0, 1) := by decide +kernel
theorem dX8_readsAll_15 : decode cX8_readsAll 15 = .ok (.getfield 51, 3) := by decide +kernel
theorem dX8_readsAll_18 : decode cX8_readsAll 18 = .ok (.iconst 0, 1) := by decide +kernel
theorem dX8_readsAll_19 : decode cX8_readsAll 19 = .ok (.iaload, 1) := by decide +kernel
theorem dX8_readsAll_20 : decode cX8_readsAll 20 = .ok (.iastore, 1) := by decide +kernel
theorem dX8_readsAll_21 : decode cX8_readsAll 21 = .ok (.aload_n 0, 1) := by decide +kernel
theorem dX8_readsAll_22 : decode cX8_readsAll 22 = .ok (.getfield 7, 3) := by decide +kernel
theorem dX8_readsAll_25 : decode cX8_readsAll 25 = .ok (.iconst 1, 1) := by decide +kernel
theorem dX8_readsAll_26 : decode cX8_readsAll 26 = .ok (.aload_n 0, 1) := by decide +kernel
theorem dX8_readsAll_27 : decode cX8_readsAll 27 = .ok (.getfield 51, 3) := by decide +kernel
theorem dX8_readsAll_30 : decode cX8_readsAll 30 = .ok (.iconst 1, 1) := by decide +kernel
theorem dX8_readsAll_31 : decode cX8_readsAll 31 = .ok (.iaload, 1) := by decide +kernel
theorem dX8_readsAll_32 : decode cX8_readsAll 32 = .ok (.iastore, 1) := by decide +kernel
theorem dX8_readsAll_33 : decode cX8_readsAll 33 = .ok (.aload_n 0, 1) := by decide +kernel
theorem dX8_readsAll_34 : decode cX8_readsAll 34 = .ok (.getfield 7, 3) := by decide +kernel
theorem dX8_readsAll_37 : decode cX8_readsAll 37 = .ok (.iconst 2, 1) := by decide +kernel
theorem dX8_readsAll_38 : decode cX8_readsAll 38 = .ok (.aload_n 0, 1) := by decide +kernel
theorem dX8_readsAll_39 : decode cX8_readsAll 39 = .ok (.getfield 51, 3) := by decide +kernel
theorem dX8_readsAll_42 : decode cX8_readsAll 42 = .ok (.iconst 2, 1) := by decide +kernel
theorem dX8_readsAll_43 : decode cX8_readsAll 43 = .ok (.iaload, 1) := by decide +kernel
theorem dX8_readsAll_44 : decode cX8_readsAll 44 = .ok (.iastore, 1) := by decide +kernel
theorem dX8_readsAll_45 : decode cX8_readsAll 45 = .ok (.aload_n 0, 1) := by decide +kernel
theorem dX8_readsAll_46 : decode cX8_readsAll 46 = .ok (.invokevirtual 188, 3) := by decide +kernel
theorem dX8_readsAll_49 : decode cX8_readsAll 49 = .ok (.aload_n 0, 1) := by decide +kernel
theorem dX8_readsAll_50 : decode cX8_readsAll 50 = .ok (.getfield 170, 3) := by decide +kernel
theorem dX8_readsAll_53 : decode cX8_readsAll 53 = .ok (.ifCond .eq 20, 3) := by decide +kernel
theorem dX8_readsAll_56 : decode cX8_readsAll 56 = .ok (.aload_n 0, 1) := by decide +kernel
theorem dX8_readsAll_57 : decode cX8_readsAll 57 = .ok (.iconst 0, 1) := by decide +kernel
theorem dX8_readsAll_58 : decode cX8_readsAll 58 = .ok (.invokevirtual 230, 3) := by decide +kernel
theorem dX8_readsAll_61 : decode cX8_readsAll 61 = .ok (.ifCond .ne 5, 3) := by decide +kernel
theorem dX8_readsAll_64 : decode cX8_readsAll 64 = .ok (.iconst 0, 1) := by decide +kernel
theorem dX8_readsAll_65 : decode cX8_readsAll 65 = .ok (.ireturn, 1) := by decide +kernel
theorem dX8_readsAll_66 : decode cX8_readsAll 66 = .ok (.aload_n 0, 1) := by decide +kernel
theorem dX8_readsAll_67 : decode cX8_readsAll 67 = .ok (.invokevirtual 188, 3) := by decide +kernel
theorem dX8_readsAll_70 : decode cX8_readsAll 70 = .ok (.goto (-21), 3) := by decide +kernel
theorem dX8_readsAll_73 : decode cX8_readsAll 73 = .ok (.iconst 1, 1) := by decide +kernel
theorem dX8_readsAll_74 : decode cX8_readsAll 74 = .ok (.ireturn, 1) := by decide +kernel
theorem dX8_parses_0 : decode cX8_parses 0 = .ok (.iconst 0, 1) := by decide +kernel
theorem dX8_parses_1 : decode cX8_parses 1 = .ok (.istore_n 1, 1) := by decide +kernel
theorem dX8_parses_2 : decode cX8_parses 2 = .ok (.iload_n 1, 1) := by decide +kernel
theorem dX8_parses_3 : decode cX8_parses 3 = .ok (.sipush 137, 3) := by decide +kernel
theorem dX8_parses_6 : decode cX8_parses 6 = .ok (.if_icmp .ge 16, 3) := by decide +kernel
theorem dX8_parses_9 : decode cX8_parses 9 = .ok (.aload_n 0, 1) := by decide +kernel
theorem dX8_parses_10 : decode cX8_parses 10 = .ok (.getfield 7, 3) := by decide +kernel
theorem dX8_parses_13 : decode cX8_parses 13 = .ok (.iload_n 1, 1) := by decide +kernel
theorem dX8_parses_14 : decode cX8_parses 14 = .ok (.iconst 0, 1) := by decide +kernel
theorem dX8_parses_15 : decode cX8_parses 15 = .ok (.iastore, 1) := by decide +kernel
theorem dX8_parses_16 : decode cX8_parses 16 = .ok (.iinc 1 1, 3) := by decide +kernel
theorem dX8_parses_19 : decode cX8_parses 19 = .ok (.goto (-17), 3) := by decide +kernel
theorem dX8_parses_22 : decode cX8_parses 22 = .ok (.aload_n 0, 1) := by decide +kernel
theorem dX8_parses_23 : decode cX8_parses 23 = .ok (.iconst 0, 1) := by decide +kernel
theorem dX8_parses_24 : decode cX8_parses 24 = .ok (.putfield 179, 3) := by decide +kernel
theorem dX8_parses_27 : decode cX8_parses 27 = .ok (.aload_n 0, 1) := by decide +kernel
theorem dX8_parses_28 : decode cX8_parses 28 = .ok (.iconst (-1), 1) := by decide +kernel
theorem dX8_parses_29 : decode cX8_parses 29 = .ok (.putfield 43, 3) := by decide +kernel
theorem dX8_parses_32 : decode cX8_parses 32 = .ok (.aload_n 0, 1) := by decide +kernel
theorem dX8_parses_33 : decode cX8_parses 33 = .ok (.iconst 0, 1) := by decide +kernel
theorem dX8_parses_34 : decode cX8_parses 34 = .ok (.putfield 268, 3) := by decide +kernel
theorem dX8_parses_37 : decode cX8_parses 37 = .ok (.aload_n 0, 1) := by decide +kernel
theorem dX8_parses_38 : decode cX8_parses 38 = .ok (.iconst 0, 1) := by decide +kernel
theorem dX8_parses_39 : decode cX8_parses 39 = .ok (.putfield 164, 3) := by decide +kernel
theorem dX8_parses_42 : decode cX8_parses 42 = .ok (.aload_n 0, 1) := by decide +kernel
theorem dX8_parses_43 : decode cX8_parses 43 = .ok (.invokevirtual 188, 3) := by decide +kernel
theorem dX8_parses_46 : decode cX8_parses 46 = .ok (.aload_n 0, 1) := by decide +kernel
theorem dX8_parses_47 : decode cX8_parses 47 = .ok (.invokevirtual 306, 3) := by decide +kernel
theorem dX8_parses_50 : decode cX8_parses 50 = .ok (.ireturn, 1) := by decide +kernel
theorem dX8_append_0 : decode cX8_append 0 = .ok (.aload_n 0, 1) := by decide +kernel
theorem dX8_append_1 : decode cX8_append 1 = .ok (.iconst 0, 1) := by decide +kernel
theorem dX8_append_2 : decode cX8_append 2 = .ok (.putfield 64, 3) := by decide +kernel
theorem dX8_append_5 : decode cX8_append 5 = .ok (.aload_n 0, 1) := by decide +kernel
theorem dX8_append_6 : decode cX8_append 6 = .ok (.getfield 309, 3) := by decide +kernel
theorem dX8_append_9 : decode cX8_append 9 = .ok (.bipush 20, 2) := by decide +kernel
theorem dX8_append_11 : decode cX8_append 11 = .ok (.iadd, 1) := by decide +kernel
theorem dX8_append_12 : decode cX8_append 12 = .ok (.sipush 600, 3) := by decide +kernel
theorem dX8_append_15 : decode cX8_append 15 = .ok (.if_icmp .le 5, 3) := by decide +kernel
theorem dX8_append_18 : decode cX8_append 18 = .ok (.iconst (-1), 1) := by decide +kernel
theorem dX8_append_19 : decode cX8_append 19 = .ok (.ireturn, 1) := by decide +kernel
theorem dX8_append_20 : decode cX8_append 20 = .ok (.aload_n 0, 1) := by decide +kernel
theorem dX8_append_21 : decode cX8_append 21 = .ok (.iload_n 1, 1) := by decide +kernel
theorem dX8_append_22 : decode cX8_append 22 = .ok (.invokevirtual 312, 3) := by decide +kernel
theorem dX8_append_25 : decode cX8_append 25 = .ok (.aload_n 0, 1) := by decide +kernel
theorem dX8_append_26 : decode cX8_append 26 = .ok (.iload_n 2, 1) := by decide +kernel
theorem dX8_append_27 : decode cX8_append 27 = .ok (.invokevirtual 312, 3) := by decide +kernel
theorem dX8_append_30 : decode cX8_append 30 = .ok (.aload_n 0, 1) := by decide +kernel
theorem dX8_append_31 : decode cX8_append 31 = .ok (.iload_n 3, 1) := by decide +kernel
theorem dX8_append_32 : decode cX8_append 32 = .ok (.invokevirtual 312, 3) := by decide +kernel
theorem dX8_append_35 : decode cX8_append 35 = .ok (.aload_n 0, 1) := by decide +kernel
theorem dX8_append_36 : decode cX8_append 36 = .ok (.iload 4, 2) := by decide +kernel
theorem dX8_append_38 : decode cX8_append 38 = .ok (.invokevirtual 312, 3) := by decide +kernel
theorem dX8_append_41 : decode cX8_append 41 = .ok (.aload_n 0, 1) := by decide +kernel
theorem dX8_append_42 : decode cX8_append 42 = .ok (.iload 5, 2) := by decide +kernel
theorem dX8_append_44 : decode cX8_append 44 = .ok (.invokevirtual 312, 3) := by decide +kernel
theorem dX8_append_47 : decode cX8_append 47 = .ok (.aload_n 0, 1) := by decide +kernel
theorem dX8_append_48 : decode cX8_append 48 = .ok (.getfield 309, 3) := by decide +kernel
theorem dX8_append_51 : decode cX8_append 51 = .ok (.ireturn, 1) := by decide +kernel
theorem dX8_type_0 : decode cX8_type 0 = .ok (.bipush 24, 2) := by decide +kernel
theorem dX8_type_2 : decode cX8_type 2 = .ok (.istore_n 2, 1) := by decide +kernel
theorem dX8_type_3 : decode cX8_type 3 = .ok (.iload_n 2, 1) := by decide +kernel
theorem dX8_type_4 : decode cX8_type 4 = .ok (.ifCond .lt 35, 3) := by decide +kernel
theorem dX8_type_7 : decode cX8_type 7 = .ok (.aload_n 0, 1) := by decide +kernel
theorem dX8_type_8 : decode cX8_type 8 = .ok (.getfield 37, 3) := by decide +kernel
theorem dX8_type_11 : decode cX8_type 11 = .ok (.aload_n 0, 1) := by decide +kernel
theorem dX8_type_12 : decode cX8_type 12 = .ok (.getfield 309, 3) := by decide +kernel
theorem dX8_type_15 : decode cX8_type 15 = .ok (.iload_n 1, 1) := by decide +kernel
theorem dX8_type_16 : decode cX8_type 16 = .ok (.iload_n 2, 1) := by decide +kernel
theorem dX8_type_17 : decode cX8_type 17 = .ok (.ishr, 1) := by decide +kernel
theorem dX8_type_18 : decode cX8_type 18 = .ok (.sipush 255, 3) := by decide +kernel
theorem dX8_type_21 : decode cX8_type 21 = .ok (.iand, 1) := by decide +kernel
theorem dX8_type_22 : decode cX8_type 22 = .ok (.iastore, 1) := by decide +kernel
theorem dX8_type_23 : decode cX8_type 23 = .ok (.aload_n 0, 1) := by decide +kernel
theorem dX8_type_24 : decode cX8_type 24 = .ok (.dup, 1) := by decide +kernel
theorem dX8_type_25 : decode cX8_type 25 = .ok (.getfield 309, 3) := by decide +kernel
theorem dX8_type_28 : decode cX8_type 28 = .ok (.iconst 1, 1) := by decide +kernel
theorem dX8_type_29 : decode cX8_type 29 = .ok (.iadd, 1) := by decide +kernel
theorem dX8_type_30 : decode cX8_type 30 = .ok (.putfield 309, 3) := by decide +kernel
theorem dX8_type_33 : decode cX8_type 33 = .ok (.iinc 2 (-8), 3) := by decide +kernel
theorem dX8_type_36 : decode cX8_type 36 = .ok (.goto (-33), 3) := by decide +kernel
theorem dX8_type_39 : decode cX8_type 39 = .ok (.return_, 1) := by decide +kernel
theorem dX8_truncateInput_0 : decode cX8_truncateInput 0 = .ok (.aload_n 0, 1) := by decide +kernel
theorem dX8_truncateInput_1 : decode cX8_truncateInput 1 = .ok (.iload_n 1, 1) := by decide +kernel
theorem dX8_truncateInput_2 : decode cX8_truncateInput 2 = .ok (.iconst 0, 1) := by decide +kernel
theorem dX8_truncateInput_3 : decode cX8_truncateInput 3 = .ok (.aload_n 0, 1) := by decide +kernel
theorem dX8_truncateInput_4 : decode cX8_truncateInput 4 = .ok (.getfield 309, 3) := by decide +kernel
theorem dX8_truncateInput_7 : decode cX8_truncateInput 7 = .ok (.invokestatic 67, 3) := by decide +kernel
theorem dX8_truncateInput_10 : decode cX8_truncateInput 10 = .ok (.ifCond .ne 7, 3) := by decide +kernel
theorem dX8_truncateInput_13 : decode cX8_truncateInput 13 = .ok (.iconst 1, 1) := by decide +kernel
theorem dX8_truncateInput_14 : decode cX8_truncateInput 14 = .ok (.goto 4, 3) := by decide +kernel
theorem dX8_truncateInput_17 : decode cX8_truncateInput 17 = .ok (.iconst 0, 1) := by decide +kernel
theorem dX8_truncateInput_18 : decode cX8_truncateInput 18 = .ok (.invokevirtual 315, 3) := by decide +kernel
theorem dX8_truncateInput_21 : decode cX8_truncateInput 21 = .ok (.ifCond .eq 5, 3) := by decide +kernel
theorem dX8_truncateInput_24 : decode cX8_truncateInput 24 = .ok (.iconst 0, 1) := by decide +kernel
theorem dX8_truncateInput_25 : decode cX8_truncateInput 25 = .ok (.ireturn, 1) := by decide +kernel
theorem dX8_truncateInput_26 : decode cX8_truncateInput 26 = .ok (.aload_n 0, 1) := by decide +kernel
theorem dX8_truncateInput_27 : decode cX8_truncateInput 27 = .ok (.iload_n 1, 1) := by decide +kernel
theorem dX8_truncateInput_28 : decode cX8_truncateInput 28 = .ok (.putfield 309, 3) := by decide +kernel
theorem dX8_truncateInput_31 : decode cX8_truncateInput 31 = .ok (.iload_n 1, 1) := by decide +kernel
theorem dX8_truncateInput_32 : decode cX8_truncateInput 32 = .ok (.ireturn, 1) := by decide +kernel
theorem dX8_begins_0 : decode cX8_begins 0 = .ok (.iconst 0, 1) := by decide +kernel
theorem dX8_begins_1 : decode cX8_begins 1 = .ok (.istore_n 1, 1) := by decide +kernel
theorem dX8_begins_2 : decode cX8_begins 2 = .ok (.iload_n 1, 1) := by decide +kernel
theorem dX8_begins_3 : decode cX8_begins 3 = .ok (.sipush 137, 3) := by decide +kernel
theorem dX8_begins_6 : decode cX8_begins 6 = .ok (.if_icmp .ge 21, 3) := by decide +kernel
theorem dX8_begins_9 : decode cX8_begins 9 = .ok (.aload_n 0, 1) := by decide +kernel
theorem dX8_begins_10 : decode cX8_begins 10 = .ok (.getfield 13, 3) := by decide +kernel
theorem dX8_begins_13 : decode cX8_begins 13 = .ok (.iload_n 1, 1) := by decide +kernel
theorem dX8_begins_14 : decode cX8_begins 14 = .ok (.aload_n 0, 1) := by decide +kernel
theorem dX8_begins_15 : decode cX8_begins 15 = .ok (.getfield 7, 3) := by decide +kernel
theorem dX8_begins_18 : decode cX8_begins 18 = .ok (.iload_n 1, 1) := by decide +kernel
theorem dX8_begins_19 : decode cX8_begins 19 = .ok (.iaload, 1) := by decide +kernel
theorem dX8_begins_20 : decode cX8_begins 20 = .ok (.iastore, 1) := by decide +kernel
theorem dX8_begins_21 : decode cX8_begins 21 = .ok (.iinc 1 1, 3) := by decide +kernel
theorem dX8_begins_24 : decode cX8_begins 24 = .ok (.goto (-22), 3) := by decide +kernel
theorem dX8_begins_27 : decode cX8_begins 27 = .ok (.return_, 1) := by decide +kernel
theorem dX8_remember_0 : decode cX8_remember 0 = .ok (.aload_n 0, 1) := by decide +kernel
theorem dX8_remember_1 : decode cX8_remember 1 = .ok (.getfield 318, 3) := by decide +kernel
theorem dX8_remember_4 : decode cX8_remember 4 = .ok (.bipush 8, 2) := by decide +kernel
theorem dX8_remember_6 : decode cX8_remember 6 = .ok (.if_icmp .ne 46, 3) := by decide +kernel
theorem dX8_remember_9 : decode cX8_remember 9 = .ok (.sipush 137, 3) := by decide +kernel
theorem dX8_remember_12 : decode cX8_remember 12 = .ok (.istore_n 2, 1) := by decide +kernel
theorem dX8_remember_13 : decode cX8_remember 13 = .ok (.iload_n 2, 1) := by decide +kernel
theorem dX8_remember_14 : decode cX8_remember 14 = .ok (.sipush 1096, 3) := by decide +kernel
theorem dX8_remember_17 : decode cX8_remember 17 = .ok (.if_icmp .ge 25, 3) := by decide +kernel
theorem dX8_remember_20 : decode cX8_remember 20 = .ok (.aload_n 0, 1) := by decide +kernel
theorem dX8_remember_21 : decode cX8_remember 21 = .ok (.getfield 25, 3) := by decide +kernel
theorem dX8_remember_24 : decode cX8_remember 24 = .ok (.iload_n 2, 1) := by decide +kernel
theorem dX8_remember_25 : decode cX8_remember 25 = .ok (.sipush 137, 3) := by decide +kernel
theorem dX8_remember_28 : decode cX8_remember 28 = .ok (.isub, 1) := by decide +kernel
theorem dX8_remember_29 : decode cX8_remember 29 = .ok (.aload_n 0, 1) := by decide +kernel
theorem dX8_remember_30 : decode cX8_remember 30 = .ok (.getfield 25, 3) := by decide +kernel
theorem dX8_remember_33 : decode cX8_remember 33 = .ok (.iload_n 2, 1) := by decide +kernel
theorem dX8_remember_34 : decode cX8_remember 34 = .ok (.iaload, 1) := by decide +kernel
theorem dX8_remember_35 : decode cX8_remember 35 = .ok (.iastore, 1) := by decide +kernel
theorem dX8_remember_36 : decode cX8_remember 36 = .ok (.iinc 2 1, 3) := by decide +kernel
theorem dX8_remember_39 : decode cX8_remember 39 = .ok (.goto (-26), 3) := by decide +kernel
theorem dX8_remember_42 : decode cX8_remember 42 = .ok (.aload_n 0, 1) := by decide +kernel
theorem dX8_remember_43 : decode cX8_remember 43 = .ok (.dup, 1) := by decide +kernel
theorem dX8_remember_44 : decode cX8_remember 44 = .ok (.getfield 318, 3) := by decide +kernel
theorem dX8_remember_47 : decode cX8_remember 47 = .ok (.iconst 1, 1) := by decide +kernel
theorem dX8_remember_48 : decode cX8_remember 48 = .ok (.isub, 1) := by decide +kernel
theorem dX8_remember_49 : decode cX8_remember 49 = .ok (.putfield 318, 3) := by decide +kernel
theorem dX8_remember_52 : decode cX8_remember 52 = .ok (.iconst 0, 1) := by decide +kernel
theorem dX8_remember_53 : decode cX8_remember 53 = .ok (.istore_n 2, 1) := by decide +kernel
theorem dX8_remember_54 : decode cX8_remember 54 = .ok (.iload_n 2, 1) := by decide +kernel
theorem dX8_remember_55 : decode cX8_remember 55 = .ok (.sipush 137, 3) := by decide +kernel
theorem dX8_remember_58 : decode cX8_remember 58 = .ok (.if_icmp .ge 30, 3) := by decide +kernel
theorem dX8_remember_61 : decode cX8_remember 61 = .ok (.aload_n 0, 1) := by decide +kernel
theorem dX8_remember_62 : decode cX8_remember 62 = .ok (.getfield 25, 3) := by decide +kernel
theorem dX8_remember_65 : decode cX8_remember 65 = .ok (.sipush 137, 3) := by decide +kernel
theorem dX8_remember_68 : decode cX8_remember 68 = .ok (.aload_n 0, 1) := by decide +kernel
theorem dX8_remember_69 : decode cX8_remember 69 = .ok (.getfield 318, 3) := by decide +kernel
theorem dX8_remember_72 : decode cX8_remember 72 = .ok (.imul, 1) := by decide +kernel
theorem dX8_remember_73 : decode cX8_remember 73 = .ok (.iload_n 2, 1) := by decide +kernel
theorem dX8_remember_74 : decode cX8_remember 74 = .ok (.iadd, 1) := by decide +kernel
theorem dX8_remember_75 : decode cX8_remember 75 = .ok (.aload_n 0, 1) := by decide +kernel
theorem dX8_remember_76 : decode cX8_remember 76 = .ok (.getfield 13, 3) := by decide +kernel
theorem dX8_remember_79 : decode cX8_remember 79 = .ok (.iload_n 2, 1) := by decide +kernel
theorem dX8_remember_80 : decode cX8_remember 80 = .ok (.iaload, 1) := by decide +kernel
theorem dX8_remember_81 : decode cX8_remember 81 = .ok (.iastore, 1) := by decide +kernel
theorem dX8_remember_82 : decode cX8_remember 82 = .ok (.iinc 2 1, 3) := by decide +kernel
theorem dX8_remember_85 : decode cX8_remember 85 = .ok (.goto (-31), 3) := by decide +kernel
theorem dX8_remember_88 : decode cX8_remember 88 = .ok (.aload_n 0, 1) := by decide +kernel
theorem dX8_remember_89 : decode cX8_remember 89 = .ok (.dup, 1) := by decide +kernel
theorem dX8_remember_90 : decode cX8_remember 90 = .ok (.getfield 318, 3) := by decide +kernel
theorem dX8_remember_93 : decode cX8_remember 93 = .ok (.iconst 1, 1) := by decide +kernel
theorem dX8_remember_94 : decode cX8_remember 94 = .ok (.iadd, 1) := by decide +kernel
theorem dX8_remember_95 : decode cX8_remember 95 = .ok (.putfield 318, 3) := by decide +kernel
theorem dX8_remember_98 : decode cX8_remember 98 = .ok (.iload_n 1, 1) := by decide +kernel
theorem dX8_remember_99 : decode cX8_remember 99 = .ok (.ireturn, 1) := by decide +kernel
theorem dX8_runScript_0 : decode cX8_runScript 0 = .ok (.aload_n 0, 1) := by decide +kernel
theorem dX8_runScript_1 : decode cX8_runScript 1 = .ok (.iconst 0, 1) := by decide +kernel
theorem dX8_runScript_2 : decode cX8_runScript 2 = .ok (.putfield 64, 3) := by decide +kernel
theorem dX8_runScript_5 : decode cX8_runScript 5 = .ok (.iconst 0, 1) := by decide +kernel
theorem dX8_runScript_6 : decode cX8_runScript 6 = .ok (.istore_n 1, 1) := by decide +kernel
theorem dX8_runScript_7 : decode cX8_runScript 7 = .ok (.iload_n 1, 1) := by decide +kernel
theorem dX8_runScript_8 : decode cX8_runScript 8 = .ok (.aload_n 0, 1) := by decide +kernel
theorem dX8_runScript_9 : decode cX8_runScript 9 = .ok (.getfield 309, 3) := by decide +kernel
theorem dX8_runScript_12 : decode cX8_runScript 12 = .ok (.if_icmp .ge 21, 3) := by decide +kernel
theorem dX8_runScript_15 : decode cX8_runScript 15 = .ok (.aload_n 0, 1) := by decide +kernel
theorem dX8_runScript_16 : decode cX8_runScript 16 = .ok (.getfield 40, 3) := by decide +kernel
theorem dX8_runScript_19 : decode cX8_runScript 19 = .ok (.iload_n 1, 1) := by decide +kernel
theorem dX8_runScript_20 : decode cX8_runScript 20 = .ok (.aload_n 0, 1) := by decide +kernel
theorem dX8_runScript_21 : decode cX8_runScript 21 = .ok (.getfield 37, 3) := by decide +kernel
theorem dX8_runScript_24 : decode cX8_runScript 24 = .ok (.iload_n 1, 1) := by decide +kernel
theorem dX8_runScript_25 : decode cX8_runScript 25 = .ok (.iaload, 1) := by decide +kernel
theorem dX8_runScript_26 : decode cX8_runScript 26 = .ok (.iastore, 1) := by decide +kernel
theorem dX8_runScript_27 : decode cX8_runScript 27 = .ok (.iinc 1 1, 3) := by decide +kernel
theorem dX8_runScript_30 : decode cX8_runScript 30 = .ok (.goto (-23), 3) := by decide +kernel
theorem dX8_runScript_33 : decode cX8_runScript 33 = .ok (.aload_n 0, 1) := by decide +kernel
theorem dX8_runScript_34 : decode cX8_runScript 34 = .ok (.aload_n 0, 1) := by decide +kernel
theorem dX8_runScript_35 : decode cX8_runScript 35 = .ok (.getfield 309, 3) := by decide +kernel
theorem dX8_runScript_38 : decode cX8_runScript 38 = .ok (.putfield 157, 3) := by decide +kernel
theorem dX8_runScript_41 : decode cX8_runScript 41 = .ok (.aload_n 0, 1) := by decide +kernel
theorem dX8_runScript_42 : decode cX8_runScript 42 = .ok (.iconst 0, 1) := by decide +kernel
theorem dX8_runScript_43 : decode cX8_runScript 43 = .ok (.putfield 309, 3) := by decide +kernel
theorem dX8_runScript_46 : decode cX8_runScript 46 = .ok (.aload_n 0, 1) := by decide +kernel
theorem dX8_runScript_47 : decode cX8_runScript 47 = .ok (.invokevirtual 321, 3) := by decide +kernel
theorem dX8_runScript_50 : decode cX8_runScript 50 = .ok (.aload_n 0, 1) := by decide +kernel
theorem dX8_runScript_51 : decode cX8_runScript 51 = .ok (.invokevirtual 60, 3) := by decide +kernel
theorem dX8_runScript_54 : decode cX8_runScript 54 = .ok (.ifCond .ne 32, 3) := by decide +kernel
theorem dX8_runScript_57 : decode cX8_runScript 57 = .ok (.iconst 0, 1) := by decide +kernel
theorem dX8_runScript_58 : decode cX8_runScript 58 = .ok (.istore_n 1, 1) := by decide +kernel
theorem dX8_runScript_59 : decode cX8_runScript 59 = .ok (.iload_n 1, 1) := by decide +kernel
theorem dX8_runScript_60 : decode cX8_runScript 60 = .ok (.sipush 137, 3) := by decide +kernel
theorem dX8_runScript_63 : decode cX8_runScript 63 = .ok (.if_icmp .ge 21, 3) := by decide +kernel
theorem dX8_runScript_66 : decode cX8_runScript 66 = .ok (.aload_n 0, 1) := by decide +kernel
theorem dX8_runScript_67 : decode cX8_runScript 67 = .ok (.getfield 7, 3) := by decide +kernel
theorem dX8_runScript_70 : decode cX8_runScript 70 = .ok (.iload_n 1, 1) := by decide +kernel
theorem dX8_runScript_71 : decode cX8_runScript 71 = .ok (.aload_n 0, 1) := by decide +kernel
theorem dX8_runScript_72 : decode cX8_runScript 72 = .ok (.getfield 13, 3) := by decide +kernel
theorem dX8_runScript_75 : decode cX8_runScript 75 = .ok (.iload_n 1, 1) := by decide +kernel
theorem dX8_runScript_76 : decode cX8_runScript 76 = .ok (.iaload, 1) := by decide +kernel
theorem dX8_runScript_77 : decode cX8_runScript 77 = .ok (.iastore, 1) := by decide +kernel
theorem dX8_runScript_78 : decode cX8_runScript 78 = .ok (.iinc 1 1, 3) := by decide +kernel
theorem dX8_runScript_81 : decode cX8_runScript 81 = .ok (.goto (-22), 3) := by decide +kernel
theorem dX8_runScript_84 : decode cX8_runScript 84 = .ok (.iconst (-1), 1) := by decide +kernel
theorem dX8_runScript_85 : decode cX8_runScript 85 = .ok (.ireturn, 1) := by decide +kernel
theorem dX8_runScript_86 : decode cX8_runScript 86 = .ok (.aload_n 0, 1) := by decide +kernel
theorem dX8_runScript_87 : decode cX8_runScript 87 = .ok (.aload_n 0, 1) := by decide +kernel
theorem dX8_runScript_88 : decode cX8_runScript 88 = .ok (.invokevirtual 148, 3) := by decide +kernel
theorem dX8_runScript_91 : decode cX8_runScript 91 = .ok (.invokevirtual 324, 3) := by decide +kernel
theorem dX8_runScript_94 : decode cX8_runScript 94 = .ok (.ireturn, 1) := by decide +kernel
theorem dX8_isEntry_0 : decode cX8_isEntry 0 = .ok (.iload_n 0, 1) := by decide +kernel
theorem dX8_isEntry_1 : decode cX8_isEntry 1 = .ok (.invokestatic 327, 3) := by decide +kernel
theorem dX8_isEntry_4 : decode cX8_isEntry 4 = .ok (.ifCond .eq 18, 3) := by decide +kernel
theorem dX8_isEntry_7 : decode cX8_isEntry 7 = .ok (.iload_n 1, 1) := by decide +kernel
theorem dX8_isEntry_8 : decode cX8_isEntry 8 = .ok (.iconst 0, 1) := by decide +kernel
theorem dX8_isEntry_9 : decode cX8_isEntry 9 = .ok (.sipush 999, 3) := by decide +kernel
theorem dX8_isEntry_12 : decode cX8_isEntry 12 = .ok (.invokestatic 67, 3) := by decide +kernel
theorem dX8_isEntry_15 : decode cX8_isEntry 15 = .ok (.ifCond .eq 7, 3) := by decide +kernel
theorem dX8_isEntry_18 : decode cX8_isEntry 18 = .ok (.iconst 1, 1) := by decide +kernel
theorem dX8_isEntry_19 : decode cX8_isEntry 19 = .ok (.goto 4, 3) := by decide +kernel
theorem dX8_isEntry_22 : decode cX8_isEntry 22 = .ok (.iconst 0, 1) := by decide +kernel
theorem dX8_isEntry_23 : decode cX8_isEntry 23 = .ok (.ireturn, 1) := by decide +kernel
theorem dX8_add_0 : decode cX8_add 0 = .ok (.iload_n 1, 1) := by decide +kernel
theorem dX8_add_1 : decode cX8_add 1 = .ok (.iload_n 2, 1) := by decide +kernel
theorem dX8_add_2 : decode cX8_add 2 = .ok (.invokestatic 330, 3) := by decide +kernel
theorem dX8_add_5 : decode cX8_add 5 = .ok (.ifCond .ne 7, 3) := by decide +kernel
theorem dX8_add_8 : decode cX8_add 8 = .ok (.iconst 1, 1) := by decide +kernel
theorem dX8_add_9 : decode cX8_add 9 = .ok (.goto 4, 3) := by decide +kernel
theorem dX8_add_12 : decode cX8_add 12 = .ok (.iconst 0, 1) := by decide +kernel
theorem dX8_add_13 : decode cX8_add 13 = .ok (.istore_n 3, 1) := by decide +kernel
theorem dX8_add_14 : decode cX8_add 14 = .ok (.aload_n 0, 1) := by decide +kernel
theorem dX8_add_15 : decode cX8_add 15 = .ok (.iload_n 3, 1) := by decide +kernel
theorem dX8_add_16 : decode cX8_add 16 = .ok (.iload_n 3, 1) := by decide +kernel
theorem dX8_add_17 : decode cX8_add 17 = .ok (.ifCond .ne 15, 3) := by decide +kernel
theorem dX8_add_20 : decode cX8_add 20 = .ok (.aload_n 0, 1) := by decide +kernel
theorem dX8_add_21 : decode cX8_add 21 = .ok (.iload_n 1, 1) := by decide +kernel
theorem dX8_add_22 : decode cX8_add 22 = .ok (.invokevirtual 197, 3) := by decide +kernel
theorem dX8_add_25 : decode cX8_add 25 = .ok (.ifCond .eq 7, 3) := by decide +kernel
theorem dX8_add_28 : decode cX8_add 28 = .ok (.iconst 1, 1) := by decide +kernel
theorem dX8_add_29 : decode cX8_add 29 = .ok (.goto 4, 3) := by decide +kernel
theorem dX8_add_32 : decode cX8_add 32 = .ok (.iconst 0, 1) := by decide +kernel
theorem dX8_add_33 : decode cX8_add 33 = .ok (.invokevirtual 333, 3) := by decide +kernel
theorem dX8_add_36 : decode cX8_add 36 = .ok (.ifCond .eq 5, 3) := by decide +kernel
theorem dX8_add_39 : decode cX8_add 39 = .ok (.iconst 0, 1) := by decide +kernel
theorem dX8_add_40 : decode cX8_add 40 = .ok (.ireturn, 1) := by decide +kernel
theorem dX8_add_41 : decode cX8_add 41 = .ok (.aload_n 0, 1) := by decide +kernel
theorem dX8_add_42 : decode cX8_add 42 = .ok (.invokevirtual 321, 3) := by decide +kernel
theorem dX8_add_45 : decode cX8_add 45 = .ok (.aload_n 0, 1) := by decide +kernel
theorem dX8_add_46 : decode cX8_add 46 = .ok (.aload_n 0, 1) := by decide +kernel
theorem dX8_add_47 : decode cX8_add 47 = .ok (.iload_n 1, 1) := by decide +kernel
theorem dX8_add_48 : decode cX8_add 48 = .ok (.iload_n 2, 1) := by decide +kernel
theorem dX8_add_49 : decode cX8_add 49 = .ok (.invokevirtual 132, 3) := by decide +kernel
theorem dX8_add_52 : decode cX8_add 52 = .ok (.invokevirtual 324, 3) := by decide +kernel
theorem dX8_add_55 : decode cX8_add 55 = .ok (.ireturn, 1) := by decide +kernel
theorem dX8_put_0 : decode cX8_put 0 = .ok (.iload_n 1, 1) := by decide +kernel
theorem dX8_put_1 : decode cX8_put 1 = .ok (.iload_n 2, 1) := by decide +kernel
theorem dX8_put_2 : decode cX8_put 2 = .ok (.invokestatic 330, 3) := by decide +kernel
theorem dX8_put_5 : decode cX8_put 5 = .ok (.ifCond .ne 7, 3) := by decide +kernel
theorem dX8_put_8 : decode cX8_put 8 = .ok (.iconst 1, 1) := by decide +kernel
theorem dX8_put_9 : decode cX8_put 9 = .ok (.goto 4, 3) := by decide +kernel
theorem dX8_put_12 : decode cX8_put 12 = .ok (.iconst 0, 1) := by decide +kernel
theorem dX8_put_13 : decode cX8_put 13 = .ok (.istore_n 3, 1) := by decide +kernel
theorem dX8_put_14 : decode cX8_put 14 = .ok (.aload_n 0, 1) := by decide +kernel
theorem dX8_put_15 : decode cX8_put 15 = .ok (.iload_n 3, 1) := by decide +kernel
theorem dX8_put_16 : decode cX8_put 16 = .ok (.iload_n 3, 1) := by decide +kernel
theorem dX8_put_17 : decode cX8_put 17 = .ok (.ifCond .ne 16, 3) := by decide +kernel
theorem dX8_put_20 : decode cX8_put 20 = .ok (.aload_n 0, 1) := by decide +kernel
theorem dX8_put_21 : decode cX8_put 21 = .ok (.iload_n 1, 1) := by decide +kernel
theorem dX8_put_22 : decode cX8_put 22 = .ok (.invokevirtual 197, 3) := by decide +kernel
theorem dX8_put_25 : decode cX8_put 25 = .ok (.iconst 2, 1) := by decide +kernel
theorem dX8_put_26 : decode cX8_put 26 = .ok (.if_icmp .ne 7, 3) := by decide +kernel
theorem dX8_put_29 : decode cX8_put 29 = .ok (.iconst 1, 1) := by decide +kernel
theorem dX8_put_30 : decode cX8_put 30 = .ok (.goto 4, 3) := by decide +kernel
theorem dX8_put_33 : decode cX8_put 33 = .ok (.iconst 0, 1) := by decide +kernel
theorem dX8_put_34 : decode cX8_put 34 = .ok (.invokevirtual 333, 3) := by decide +kernel
theorem dX8_put_37 : decode cX8_put 37 = .ok (.ifCond .eq 5, 3) := by decide +kernel
theorem dX8_put_40 : decode cX8_put 40 = .ok (.iconst 0, 1) := by decide +kernel
theorem dX8_put_41 : decode cX8_put 41 = .ok (.ireturn, 1) := by decide +kernel
theorem dX8_put_42 : decode cX8_put 42 = .ok (.aload_n 0, 1) := by decide +kernel
theorem dX8_put_43 : decode cX8_put 43 = .ok (.invokevirtual 321, 3) := by decide +kernel
theorem dX8_put_46 : decode cX8_put 46 = .ok (.aload_n 0, 1) := by decide +kernel
theorem dX8_put_47 : decode cX8_put 47 = .ok (.aload_n 0, 1) := by decide +kernel
theorem dX8_put_48 : decode cX8_put 48 = .ok (.iload_n 1, 1) := by decide +kernel
theorem dX8_put_49 : decode cX8_put 49 = .ok (.iload_n 2, 1) := by decide +kernel
theorem dX8_put_50 : decode cX8_put 50 = .ok (.invokevirtual 204, 3) := by decide +kernel
theorem dX8_put_53 : decode cX8_put 53 = .ok (.invokevirtual 324, 3) := by decide +kernel
theorem dX8_put_56 : decode cX8_put 56 = .ok (.ireturn, 1) := by decide +kernel
theorem dX8_addRow_0 : decode cX8_addRow 0 = .ok (.iload_n 1, 1) := by decide +kernel
theorem dX8_addRow_1 : decode cX8_addRow 1 = .ok (.invokestatic 327, 3) := by decide +kernel
theorem dX8_addRow_4 : decode cX8_addRow 4 = .ok (.ifCond .eq 37, 3) := by decide +kernel
theorem dX8_addRow_7 : decode cX8_addRow 7 = .ok (.iload_n 2, 1) := by decide +kernel
theorem dX8_addRow_8 : decode cX8_addRow 8 = .ok (.iconst 1, 1) := by decide +kernel
theorem dX8_addRow_9 : decode cX8_addRow 9 = .ok (.sipush 999, 3) := by decide +kernel
theorem dX8_addRow_12 : decode cX8_addRow 12 = .ok (.invokestatic 67, 3) := by decide +kernel
theorem dX8_addRow_15 : decode cX8_addRow 15 = .ok (.ifCond .eq 26, 3) := by decide +kernel
theorem dX8_addRow_18 : decode cX8_addRow 18 = .ok (.iload_n 3, 1) := by decide +kernel
theorem dX8_addRow_19 : decode cX8_addRow 19 = .ok (.iconst 1, 1) := by decide +kernel
theorem dX8_addRow_20 : decode cX8_addRow 20 = .ok (.bipush 20, 2) := by decide +kernel
theorem dX8_addRow_22 : decode cX8_addRow 22 = .ok (.invokestatic 67, 3) := by decide +kernel
theorem dX8_addRow_25 : decode cX8_addRow 25 = .ok (.ifCond .eq 16, 3) := by decide +kernel
theorem dX8_addRow_28 : decode cX8_addRow 28 = .ok (.iload_n 1, 1) := by decide +kernel
theorem dX8_addRow_29 : decode cX8_addRow 29 = .ok (.iload_n 3, 1) := by decide +kernel
theorem dX8_addRow_30 : decode cX8_addRow 30 = .ok (.iconst 1, 1) := by decide +kernel
theorem dX8_addRow_31 : decode cX8_addRow 31 = .ok (.isub, 1) := by decide +kernel
theorem dX8_addRow_32 : decode cX8_addRow 32 = .ok (.iload_n 2, 1) := by decide +kernel
theorem dX8_addRow_33 : decode cX8_addRow 33 = .ok (.imul, 1) := by decide +kernel
theorem dX8_addRow_34 : decode cX8_addRow 34 = .ok (.iadd, 1) := by decide +kernel
theorem dX8_addRow_35 : decode cX8_addRow 35 = .ok (.sipush 9999, 3) := by decide +kernel
theorem dX8_addRow_38 : decode cX8_addRow 38 = .ok (.if_icmp .le 7, 3) := by decide +kernel
theorem dX8_addRow_41 : decode cX8_addRow 41 = .ok (.iconst 1, 1) := by decide +kernel
theorem dX8_addRow_42 : decode cX8_addRow 42 = .ok (.goto 4, 3) := by decide +kernel
theorem dX8_addRow_45 : decode cX8_addRow 45 = .ok (.iconst 0, 1) := by decide +kernel
theorem dX8_addRow_46 : decode cX8_addRow 46 = .ok (.istore 4, 2) := by decide +kernel
theorem dX8_addRow_48 : decode cX8_addRow 48 = .ok (.aload_n 0, 1) := by decide +kernel
theorem dX8_addRow_49 : decode cX8_addRow 49 = .ok (.iload 4, 2) := by decide +kernel
theorem dX8_addRow_51 : decode cX8_addRow 51 = .ok (.iload 4, 2) := by decide +kernel
theorem dX8_addRow_53 : decode cX8_addRow 53 = .ok (.ifCond .ne 17, 3) := by decide +kernel
theorem dX8_addRow_56 : decode cX8_addRow 56 = .ok (.aload_n 0, 1) := by decide +kernel
theorem dX8_addRow_57 : decode cX8_addRow 57 = .ok (.iload_n 1, 1) := by decide +kernel
theorem dX8_addRow_58 : decode cX8_addRow 58 = .ok (.iload_n 2, 1) := by decide +kernel
theorem dX8_addRow_59 : decode cX8_addRow 59 = .ok (.iload_n 3, 1) := by decide +kernel
theorem dX8_addRow_60 : decode cX8_addRow 60 = .ok (.invokevirtual 212, 3) := by decide +kernel
theorem dX8_addRow_63 : decode cX8_addRow 63 = .ok (.ifCond .ne 7, 3) := by decide +kernel
theorem dX8_addRow_66 : decode cX8_addRow 66 = .ok (.iconst 1, 1) := by decide +kernel
theorem dX8_addRow_67 : decode cX8_addRow 67 = .ok (.goto 4, 3) := by decide +kernel
theorem dX8_addRow_70 : decode cX8_addRow 70 = .ok (.iconst 0, 1) := by decide +kernel
theorem dX8_addRow_71 : decode cX8_addRow 71 = .ok (.invokevirtual 333, 3) := by decide +kernel
theorem dX8_addRow_74 : decode cX8_addRow 74 = .ok (.ifCond .eq 5, 3) := by decide +kernel
theorem dX8_addRow_77 : decode cX8_addRow 77 = .ok (.iconst 0, 1) := by decide +kernel
theorem dX8_addRow_78 : decode cX8_addRow 78 = .ok (.ireturn, 1) := by decide +kernel
theorem dX8_addRow_79 : decode cX8_addRow 79 = .ok (.aload_n 0, 1) := by decide +kernel
theorem dX8_addRow_80 : decode cX8_addRow 80 = .ok (.invokevirtual 321, 3) := by decide +kernel
theorem dX8_addRow_83 : decode cX8_addRow 83 = .ok (.aload_n 0, 1) := by decide +kernel
theorem dX8_addRow_84 : decode cX8_addRow 84 = .ok (.aload_n 0, 1) := by decide +kernel
theorem dX8_addRow_85 : decode cX8_addRow 85 = .ok (.iload_n 1, 1) := by decide +kernel
theorem dX8_addRow_86 : decode cX8_addRow 86 = .ok (.iload_n 2, 1) := by decide +kernel
theorem dX8_addRow_87 : decode cX8_addRow 87 = .ok (.iload_n 3, 1) := by decide +kernel
theorem dX8_addRow_88 : decode cX8_addRow 88 = .ok (.invokevirtual 135, 3) := by decide +kernel
theorem dX8_addRow_91 : decode cX8_addRow 91 = .ok (.invokevirtual 324, 3) := by decide +kernel
theorem dX8_addRow_94 : decode cX8_addRow 94 = .ok (.ireturn, 1) := by decide +kernel
theorem dX8_remove_0 : decode cX8_remove 0 = .ok (.aload_n 0, 1) := by decide +kernel
theorem dX8_remove_1 : decode cX8_remove 1 = .ok (.iload_n 1, 1) := by decide +kernel
theorem dX8_remove_2 : decode cX8_remove 2 = .ok (.invokestatic 327, 3) := by decide +kernel
theorem dX8_remove_5 : decode cX8_remove 5 = .ok (.ifCond .eq 12, 3) := by decide +kernel
theorem dX8_remove_8 : decode cX8_remove 8 = .ok (.aload_n 0, 1) := by decide +kernel
theorem dX8_remove_9 : decode cX8_remove 9 = .ok (.iload_n 1, 1) := by decide +kernel
theorem dX8_remove_10 : decode cX8_remove 10 = .ok (.invokevirtual 129, 3) := by decide +kernel
theorem dX8_remove_13 : decode cX8_remove 13 = .ok (.iconst (-1), 1) := by decide +kernel
theorem dX8_remove_14 : decode cX8_remove 14 = .ok (.if_icmp .ne 7, 3) := by decide +kernel
theorem dX8_remove_17 : decode cX8_remove 17 = .ok (.iconst 1, 1) := by decide +kernel
theorem dX8_remove_18 : decode cX8_remove 18 = .ok (.goto 4, 3) := by decide +kernel
theorem dX8_remove_21 : decode cX8_remove 21 = .ok (.iconst 0, 1) := by decide +kernel
theorem dX8_remove_22 : decode cX8_remove 22 = .ok (.invokevirtual 315, 3) := by decide +kernel
theorem dX8_remove_25 : decode cX8_remove 25 = .ok (.ifCond .eq 5, 3) := by decide +kernel
theorem dX8_remove_28 : decode cX8_remove 28 = .ok (.iconst 0, 1) := by decide +kernel
theorem dX8_remove_29 : decode cX8_remove 29 = .ok (.ireturn, 1) := by decide +kernel
theorem dX8_remove_30 : decode cX8_remove 30 = .ok (.aload_n 0, 1) := by decide +kernel
theorem dX8_remove_31 : decode cX8_remove 31 = .ok (.invokevirtual 321, 3) := by decide +kernel
theorem dX8_remove_34 : decode cX8_remove 34 = .ok (.aload_n 0, 1) := by decide +kernel
theorem dX8_remove_35 : decode cX8_remove 35 = .ok (.aload_n 0, 1) := by decide +kernel
theorem dX8_remove_36 : decode cX8_remove 36 = .ok (.iload_n 1, 1) := by decide +kernel
theorem dX8_remove_37 : decode cX8_remove 37 = .ok (.invokevirtual 215, 3) := by decide +kernel
theorem dX8_remove_40 : decode cX8_remove 40 = .ok (.invokevirtual 324, 3) := by decide +kernel
theorem dX8_remove_43 : decode cX8_remove 43 = .ok (.ireturn, 1) := by decide +kernel
theorem dX8_reset_0 : decode cX8_reset 0 = .ok (.aload_n 0, 1) := by decide +kernel
theorem dX8_reset_1 : decode cX8_reset 1 = .ok (.invokevirtual 321, 3) := by decide +kernel
theorem dX8_reset_4 : decode cX8_reset 4 = .ok (.aload_n 0, 1) := by decide +kernel
theorem dX8_reset_5 : decode cX8_reset 5 = .ok (.iload_n 1, 1) := by decide +kernel
theorem dX8_reset_6 : decode cX8_reset 6 = .ok (.iload_n 2, 1) := by decide +kernel
theorem dX8_reset_7 : decode cX8_reset 7 = .ok (.invokevirtual 145, 3) := by decide +kernel
theorem dX8_reset_10 : decode cX8_reset 10 = .ok (.pop, 1) := by decide +kernel
theorem dX8_reset_11 : decode cX8_reset 11 = .ok (.aload_n 0, 1) := by decide +kernel
theorem dX8_reset_12 : decode cX8_reset 12 = .ok (.aload_n 0, 1) := by decide +kernel
theorem dX8_reset_13 : decode cX8_reset 13 = .ok (.getfield 7, 3) := by decide +kernel
theorem dX8_reset_16 : decode cX8_reset 16 = .ok (.iconst 0, 1) := by decide +kernel
theorem dX8_reset_17 : decode cX8_reset 17 = .ok (.iaload, 1) := by decide +kernel
theorem dX8_reset_18 : decode cX8_reset 18 = .ok (.invokevirtual 324, 3) := by decide +kernel
theorem dX8_reset_21 : decode cX8_reset 21 = .ok (.ireturn, 1) := by decide +kernel
theorem dX8_setNeighbourhood_0 : decode cX8_setNeighbourhood 0 = .ok (.iload_n 1, 1) := by decide +kernel
theorem dX8_setNeighbourhood_1 : decode cX8_setNeighbourhood 1 = .ok (.iconst 2, 1) := by decide +kernel
theorem dX8_setNeighbourhood_2 : decode cX8_setNeighbourhood 2 = .ok (.bipush 6, 2) := by decide +kernel
theorem dX8_setNeighbourhood_4 : decode cX8_setNeighbourhood 4 = .ok (.invokestatic 67, 3) := by decide +kernel
theorem dX8_setNeighbourhood_7 : decode cX8_setNeighbourhood 7 = .ok (.ifCond .ne 7, 3) := by decide +kernel
theorem dX8_setNeighbourhood_10 : decode cX8_setNeighbourhood 10 = .ok (.iconst 1, 1) := by decide +kernel
theorem dX8_setNeighbourhood_11 : decode cX8_setNeighbourhood 11 = .ok (.goto 4, 3) := by decide +kernel
theorem dX8_setNeighbourhood_14 : decode cX8_setNeighbourhood 14 = .ok (.iconst 0, 1) := by decide +kernel
theorem dX8_setNeighbourhood_15 : decode cX8_setNeighbourhood 15 = .ok (.istore_n 2, 1) := by decide +kernel
theorem dX8_setNeighbourhood_16 : decode cX8_setNeighbourhood 16 = .ok (.aload_n 0, 1) := by decide +kernel
theorem dX8_setNeighbourhood_17 : decode cX8_setNeighbourhood 17 = .ok (.iload_n 2, 1) := by decide +kernel
theorem dX8_setNeighbourhood_18 : decode cX8_setNeighbourhood 18 = .ok (.iload_n 2, 1) := by decide +kernel
theorem dX8_setNeighbourhood_19 : decode cX8_setNeighbourhood 19 = .ok (.ifCond .ne 16, 3) := by decide +kernel
theorem dX8_setNeighbourhood_22 : decode cX8_setNeighbourhood 22 = .ok (.aload_n 0, 1) := by decide +kernel
theorem dX8_setNeighbourhood_23 : decode cX8_setNeighbourhood 23 = .ok (.iconst 1, 1) := by decide +kernel
theorem dX8_setNeighbourhood_24 : decode cX8_setNeighbourhood 24 = .ok (.iload_n 1, 1) := by decide +kernel
theorem dX8_setNeighbourhood_25 : decode cX8_setNeighbourhood 25 = .ok (.invokevirtual 218, 3) := by decide +kernel
theorem dX8_setNeighbourhood_28 : decode cX8_setNeighbourhood 28 = .ok (.ifCond .ne 7, 3) := by decide +kernel
theorem dX8_setNeighbourhood_31 : decode cX8_setNeighbourhood 31 = .ok (.iconst 1, 1) := by decide +kernel
theorem dX8_setNeighbourhood_32 : decode cX8_setNeighbourhood 32 = .ok (.goto 4, 3) := by decide +kernel
theorem dX8_setNeighbourhood_35 : decode cX8_setNeighbourhood 35 = .ok (.iconst 0, 1) := by decide +kernel
theorem dX8_setNeighbourhood_36 : decode cX8_setNeighbourhood 36 = .ok (.invokevirtual 333, 3) := by decide +kernel
theorem dX8_setNeighbourhood_39 : decode cX8_setNeighbourhood 39 = .ok (.ifCond .eq 7, 3) := by decide +kernel
theorem dX8_setNeighbourhood_42 : decode cX8_setNeighbourhood 42 = .ok (.iconst 0, 1) := by decide +kernel
theorem dX8_setNeighbourhood_43 : decode cX8_setNeighbourhood 43 = .ok (.goto 9, 3) := by decide +kernel
theorem dX8_setNeighbourhood_46 : decode cX8_setNeighbourhood 46 = .ok (.aload_n 0, 1) := by decide +kernel
theorem dX8_setNeighbourhood_47 : decode cX8_setNeighbourhood 47 = .ok (.iconst 1, 1) := by decide +kernel
theorem dX8_setNeighbourhood_48 : decode cX8_setNeighbourhood 48 = .ok (.iload_n 1, 1) := by decide +kernel
theorem dX8_setNeighbourhood_49 : decode cX8_setNeighbourhood 49 = .ok (.invokevirtual 336, 3) := by decide +kernel
theorem dX8_setNeighbourhood_52 : decode cX8_setNeighbourhood 52 = .ok (.ireturn, 1) := by decide +kernel
theorem dX8_setMultiplier_0 : decode cX8_setMultiplier 0 = .ok (.iload_n 1, 1) := by decide +kernel
theorem dX8_setMultiplier_1 : decode cX8_setMultiplier 1 = .ok (.iconst 1, 1) := by decide +kernel
theorem dX8_setMultiplier_2 : decode cX8_setMultiplier 2 = .ok (.bipush 99, 2) := by decide +kernel
theorem dX8_setMultiplier_4 : decode cX8_setMultiplier 4 = .ok (.invokestatic 67, 3) := by decide +kernel
theorem dX8_setMultiplier_7 : decode cX8_setMultiplier 7 = .ok (.ifCond .ne 7, 3) := by decide +kernel
theorem dX8_setMultiplier_10 : decode cX8_setMultiplier 10 = .ok (.iconst 1, 1) := by decide +kernel
theorem dX8_setMultiplier_11 : decode cX8_setMultiplier 11 = .ok (.goto 4, 3) := by decide +kernel
theorem dX8_setMultiplier_14 : decode cX8_setMultiplier 14 = .ok (.iconst 0, 1) := by decide +kernel
theorem dX8_setMultiplier_15 : decode cX8_setMultiplier 15 = .ok (.istore_n 2, 1) := by decide +kernel
theorem dX8_setMultiplier_16 : decode cX8_setMultiplier 16 = .ok (.aload_n 0, 1) := by decide +kernel
theorem dX8_setMultiplier_17 : decode cX8_setMultiplier 17 = .ok (.iload_n 2, 1) := by decide +kernel
theorem dX8_setMultiplier_18 : decode cX8_setMultiplier 18 = .ok (.iload_n 2, 1) := by decide +kernel
theorem dX8_setMultiplier_19 : decode cX8_setMultiplier 19 = .ok (.ifCond .ne 16, 3) := by decide +kernel
theorem dX8_setMultiplier_22 : decode cX8_setMultiplier 22 = .ok (.aload_n 0, 1) := by decide +kernel
theorem dX8_setMultiplier_23 : decode cX8_setMultiplier 23 = .ok (.iconst 2, 1) := by decide +kernel
theorem dX8_setMultiplier_24 : decode cX8_setMultiplier 24 = .ok (.iload_n 1, 1) := by decide +kernel
theorem dX8_setMultiplier_25 : decode cX8_setMultiplier 25 = .ok (.invokevirtual 218, 3) := by decide +kernel
theorem dX8_setMultiplier_28 : decode cX8_setMultiplier 28 = .ok (.ifCond .ne 7, 3) := by decide +kernel
theorem dX8_setMultiplier_31 : decode cX8_setMultiplier 31 = .ok (.iconst 1, 1) := by decide +kernel
theorem dX8_setMultiplier_32 : decode cX8_setMultiplier 32 = .ok (.goto 4, 3) := by decide +kernel
theorem dX8_setMultiplier_35 : decode cX8_setMultiplier 35 = .ok (.iconst 0, 1) := by decide +kernel
theorem dX8_setMultiplier_36 : decode cX8_setMultiplier 36 = .ok (.invokevirtual 333, 3) := by decide +kernel
theorem dX8_setMultiplier_39 : decode cX8_setMultiplier 39 = .ok (.ifCond .eq 7, 3) := by decide +kernel
theorem dX8_setMultiplier_42 : decode cX8_setMultiplier 42 = .ok (.iconst 0, 1) := by decide +kernel
theorem dX8_setMultiplier_43 : decode cX8_setMultiplier 43 = .ok (.goto 9, 3) := by decide +kernel
theorem dX8_setMultiplier_46 : decode cX8_setMultiplier 46 = .ok (.aload_n 0, 1) := by decide +kernel
theorem dX8_setMultiplier_47 : decode cX8_setMultiplier 47 = .ok (.iconst 2, 1) := by decide +kernel
theorem dX8_setMultiplier_48 : decode cX8_setMultiplier 48 = .ok (.iload_n 1, 1) := by decide +kernel
theorem dX8_setMultiplier_49 : decode cX8_setMultiplier 49 = .ok (.invokevirtual 336, 3) := by decide +kernel
theorem dX8_setMultiplier_52 : decode cX8_setMultiplier 52 = .ok (.ireturn, 1) := by decide +kernel
theorem dX8_setPulling_0 : decode cX8_setPulling 0 = .ok (.aload_n 0, 1) := by decide +kernel
theorem dX8_setPulling_1 : decode cX8_setPulling 1 = .ok (.iconst 0, 1) := by decide +kernel
theorem dX8_setPulling_2 : decode cX8_setPulling 2 = .ok (.putfield 64, 3) := by decide +kernel
theorem dX8_setPulling_5 : decode cX8_setPulling 5 = .ok (.aload_n 0, 1) := by decide +kernel
theorem dX8_setPulling_6 : decode cX8_setPulling 6 = .ok (.invokevirtual 321, 3) := by decide +kernel
theorem dX8_setPulling_9 : decode cX8_setPulling 9 = .ok (.aload_n 0, 1) := by decide +kernel
theorem dX8_setPulling_10 : decode cX8_setPulling 10 = .ok (.getfield 7, 3) := by decide +kernel
theorem dX8_setPulling_13 : decode cX8_setPulling 13 = .ok (.iconst 3, 1) := by decide +kernel
theorem dX8_setPulling_14 : decode cX8_setPulling 14 = .ok (.iaload, 1) := by decide +kernel
theorem dX8_setPulling_15 : decode cX8_setPulling 15 = .ok (.istore_n 2, 1) := by decide +kernel
theorem dX8_setPulling_16 : decode cX8_setPulling 16 = .ok (.aload_n 0, 1) := by decide +kernel
theorem dX8_setPulling_17 : decode cX8_setPulling 17 = .ok (.getfield 7, 3) := by decide +kernel
theorem dX8_setPulling_20 : decode cX8_setPulling 20 = .ok (.iconst 3, 1) := by decide +kernel
theorem dX8_setPulling_21 : decode cX8_setPulling 21 = .ok (.iload_n 1, 1) := by decide +kernel
theorem dX8_setPulling_22 : decode cX8_setPulling 22 = .ok (.ifCond .eq 7, 3) := by decide +kernel
theorem dX8_setPulling_25 : decode cX8_setPulling 25 = .ok (.iconst 1, 1) := by decide +kernel
theorem dX8_setPulling_26 : decode cX8_setPulling 26 = .ok (.goto 4, 3) := by decide +kernel
theorem dX8_setPulling_29 : decode cX8_setPulling 29 = .ok (.iconst 0, 1) := by decide +kernel
theorem dX8_setPulling_30 : decode cX8_setPulling 30 = .ok (.iastore, 1) := by decide +kernel
theorem dX8_setPulling_31 : decode cX8_setPulling 31 = .ok (.aload_n 0, 1) := by decide +kernel
theorem dX8_setPulling_32 : decode cX8_setPulling 32 = .ok (.iload_n 2, 1) := by decide +kernel
theorem dX8_setPulling_33 : decode cX8_setPulling 33 = .ok (.invokevirtual 324, 3) := by decide +kernel
theorem dX8_setPulling_36 : decode cX8_setPulling 36 = .ok (.iconst 1, 1) := by decide +kernel
theorem dX8_setPulling_37 : decode cX8_setPulling 37 = .ok (.if_icmp .ne 7, 3) := by decide +kernel
theorem dX8_setPulling_40 : decode cX8_setPulling 40 = .ok (.iconst 1, 1) := by decide +kernel
theorem dX8_setPulling_41 : decode cX8_setPulling 41 = .ok (.goto 4, 3) := by decide +kernel
theorem dX8_setPulling_44 : decode cX8_setPulling 44 = .ok (.iconst 0, 1) := by decide +kernel
theorem dX8_setPulling_45 : decode cX8_setPulling 45 = .ok (.ireturn, 1) := by decide +kernel
theorem dX8_grow_0 : decode cX8_grow 0 = .ok (.aload_n 0, 1) := by decide +kernel
theorem dX8_grow_1 : decode cX8_grow 1 = .ok (.aload_n 0, 1) := by decide +kernel
theorem dX8_grow_2 : decode cX8_grow 2 = .ok (.invokevirtual 221, 3) := by decide +kernel
theorem dX8_grow_5 : decode cX8_grow 5 = .ok (.ifCond .ne 7, 3) := by decide +kernel
theorem dX8_grow_8 : decode cX8_grow 8 = .ok (.iconst 1, 1) := by decide +kernel
theorem dX8_grow_9 : decode cX8_grow 9 = .ok (.goto 4, 3) := by decide +kernel
theorem dX8_grow_12 : decode cX8_grow 12 = .ok (.iconst 0, 1) := by decide +kernel
theorem dX8_grow_13 : decode cX8_grow 13 = .ok (.invokevirtual 315, 3) := by decide +kernel
theorem dX8_grow_16 : decode cX8_grow 16 = .ok (.ifCond .eq 5, 3) := by decide +kernel
theorem dX8_grow_19 : decode cX8_grow 19 = .ok (.iconst 0, 1) := by decide +kernel
theorem dX8_grow_20 : decode cX8_grow 20 = .ok (.ireturn, 1) := by decide +kernel
theorem dX8_grow_21 : decode cX8_grow 21 = .ok (.aload_n 0, 1) := by decide +kernel
theorem dX8_grow_22 : decode cX8_grow 22 = .ok (.invokevirtual 321, 3) := by decide +kernel
theorem dX8_grow_25 : decode cX8_grow 25 = .ok (.aload_n 0, 1) := by decide +kernel
theorem dX8_grow_26 : decode cX8_grow 26 = .ok (.aload_n 0, 1) := by decide +kernel
theorem dX8_grow_27 : decode cX8_grow 27 = .ok (.invokevirtual 224, 3) := by decide +kernel
theorem dX8_grow_30 : decode cX8_grow 30 = .ok (.invokevirtual 324, 3) := by decide +kernel
theorem dX8_grow_33 : decode cX8_grow 33 = .ok (.ireturn, 1) := by decide +kernel
theorem dX8_clear_0 : decode cX8_clear 0 = .ok (.aload_n 0, 1) := by decide +kernel
theorem dX8_clear_1 : decode cX8_clear 1 = .ok (.iconst 0, 1) := by decide +kernel
theorem dX8_clear_2 : decode cX8_clear 2 = .ok (.putfield 64, 3) := by decide +kernel
theorem dX8_clear_5 : decode cX8_clear 5 = .ok (.aload_n 0, 1) := by decide +kernel
theorem dX8_clear_6 : decode cX8_clear 6 = .ok (.invokevirtual 321, 3) := by decide +kernel
theorem dX8_clear_9 : decode cX8_clear 9 = .ok (.aload_n 0, 1) := by decide +kernel
theorem dX8_clear_10 : decode cX8_clear 10 = .ok (.aload_n 0, 1) := by decide +kernel
theorem dX8_clear_11 : decode cX8_clear 11 = .ok (.invokevirtual 227, 3) := by decide +kernel
theorem dX8_clear_14 : decode cX8_clear 14 = .ok (.invokevirtual 324, 3) := by decide +kernel
theorem dX8_clear_17 : decode cX8_clear 17 = .ok (.ireturn, 1) := by decide +kernel
theorem dX8_undo_0 : decode cX8_undo 0 = .ok (.aload_n 0, 1) := by decide +kernel
theorem dX8_undo_1 : decode cX8_undo 1 = .ok (.iconst 0, 1) := by decide +kernel
theorem dX8_undo_2 : decode cX8_undo 2 = .ok (.putfield 64, 3) := by decide +kernel
theorem dX8_undo_5 : decode cX8_undo 5 = .ok (.aload_n 0, 1) := by decide +kernel
theorem dX8_undo_6 : decode cX8_undo 6 = .ok (.getfield 318, 3) := by decide +kernel
theorem dX8_undo_9 : decode cX8_undo 9 = .ok (.ifCond .ne 5, 3) := by decide +kernel
theorem dX8_undo_12 : decode cX8_undo 12 = .ok (.iconst (-1), 1) := by decide +kernel
theorem dX8_undo_13 : decode cX8_undo 13 = .ok (.ireturn, 1) := by decide +kernel
theorem dX8_undo_14 : decode cX8_undo 14 = .ok (.aload_n 0, 1) := by decide +kernel
theorem dX8_undo_15 : decode cX8_undo 15 = .ok (.dup, 1) := by decide +kernel
theorem dX8_undo_16 : decode cX8_undo 16 = .ok (.getfield 318, 3) := by decide +kernel
theorem dX8_undo_19 : decode cX8_undo 19 = .ok (.iconst 1, 1) := by decide +kernel
theorem dX8_undo_20 : decode cX8_undo 20 = .ok (.isub, 1) := by decide +kernel
theorem dX8_undo_21 : decode cX8_undo 21 = .ok (.putfield 318, 3) := by decide +kernel
theorem dX8_undo_24 : decode cX8_undo 24 = .ok (.iconst 0, 1) := by decide +kernel
theorem dX8_undo_25 : decode cX8_undo 25 = .ok (.istore_n 1, 1) := by decide +kernel
theorem dX8_undo_26 : decode cX8_undo 26 = .ok (.iload_n 1, 1) := by decide +kernel
theorem dX8_undo_27 : decode cX8_undo 27 = .ok (.sipush 137, 3) := by decide +kernel
theorem dX8_undo_30 : decode cX8_undo 30 = .ok (.if_icmp .ge 30, 3) := by decide +kernel
theorem dX8_undo_33 : decode cX8_undo 33 = .ok (.aload_n 0, 1) := by decide +kernel
theorem dX8_undo_34 : decode cX8_undo 34 = .ok (.getfield 7, 3) := by decide +kernel
theorem dX8_undo_37 : decode cX8_undo 37 = .ok (.iload_n 1, 1) := by decide +kernel
theorem dX8_undo_38 : decode cX8_undo 38 = .ok (.aload_n 0, 1) := by decide +kernel
theorem dX8_undo_39 : decode cX8_undo 39 = .ok (.getfield 25, 3) := by decide +kernel
theorem dX8_undo_42 : decode cX8_undo 42 = .ok (.sipush 137, 3) := by decide +kernel
theorem dX8_undo_45 : decode cX8_undo 45 = .ok (.aload_n 0, 1) := by decide +kernel
theorem dX8_undo_46 : decode cX8_undo 46 = .ok (.getfield 318, 3) := by decide +kernel
theorem dX8_undo_49 : decode cX8_undo 49 = .ok (.imul, 1) := by decide +kernel
theorem dX8_undo_50 : decode cX8_undo 50 = .ok (.iload_n 1, 1) := by decide +kernel
theorem dX8_undo_51 : decode cX8_undo 51 = .ok (.iadd, 1) := by decide +kernel
theorem dX8_undo_52 : decode cX8_undo 52 = .ok (.iaload, 1) := by decide +kernel
theorem dX8_undo_53 : decode cX8_undo 53 = .ok (.iastore, 1) := by decide +kernel
theorem dX8_undo_54 : decode cX8_undo 54 = .ok (.iinc 1 1, 3) := by decide +kernel
theorem dX8_undo_57 : decode cX8_undo 57 = .ok (.goto (-31), 3) := by decide +kernel
theorem dX8_undo_60 : decode cX8_undo 60 = .ok (.aload_n 0, 1) := by decide +kernel
theorem dX8_undo_61 : decode cX8_undo 61 = .ok (.getfield 318, 3) := by decide +kernel
theorem dX8_undo_64 : decode cX8_undo 64 = .ok (.ireturn, 1) := by decide +kernel
theorem dX8_undoCount_0 : decode cX8_undoCount 0 = .ok (.aload_n 0, 1) := by decide +kernel
theorem dX8_undoCount_1 : decode cX8_undoCount 1 = .ok (.iconst 0, 1) := by decide +kernel
theorem dX8_undoCount_2 : decode cX8_undoCount 2 = .ok (.putfield 64, 3) := by decide +kernel
theorem dX8_undoCount_5 : decode cX8_undoCount 5 = .ok (.aload_n 0, 1) := by decide +kernel
theorem dX8_undoCount_6 : decode cX8_undoCount 6 = .ok (.getfield 318, 3) := by decide +kernel
theorem dX8_undoCount_9 : decode cX8_undoCount 9 = .ok (.ireturn, 1) := by decide +kernel
theorem dX8_saveSnapshot_0 : decode cX8_saveSnapshot 0 = .ok (.aload_n 0, 1) := by decide +kernel
theorem dX8_saveSnapshot_1 : decode cX8_saveSnapshot 1 = .ok (.iconst 0, 1) := by decide +kernel
theorem dX8_saveSnapshot_2 : decode cX8_saveSnapshot 2 = .ok (.putfield 64, 3) := by decide +kernel
theorem dX8_saveSnapshot_5 : decode cX8_saveSnapshot 5 = .ok (.aload_n 0, 1) := by decide +kernel
theorem dX8_saveSnapshot_6 : decode cX8_saveSnapshot 6 = .ok (.iconst 1, 1) := by decide +kernel
theorem dX8_saveSnapshot_7 : decode cX8_saveSnapshot 7 = .ok (.putfield 339, 3) := by decide +kernel
theorem dX8_saveSnapshot_10 : decode cX8_saveSnapshot 10 = .ok (.iconst 0, 1) := by decide +kernel
theorem dX8_saveSnapshot_11 : decode cX8_saveSnapshot 11 = .ok (.istore_n 1, 1) := by decide +kernel
theorem dX8_saveSnapshot_12 : decode cX8_saveSnapshot 12 = .ok (.iload_n 1, 1) := by decide +kernel
theorem dX8_saveSnapshot_13 : decode cX8_saveSnapshot 13 = .ok (.sipush 137, 3) := by decide +kernel
theorem dX8_saveSnapshot_16 : decode cX8_saveSnapshot 16 = .ok (.if_icmp .ge 21, 3) := by decide +kernel
theorem dX8_saveSnapshot_19 : decode cX8_saveSnapshot 19 = .ok (.aload_n 0, 1) := by decide +kernel
theorem dX8_saveSnapshot_20 : decode cX8_saveSnapshot 20 = .ok (.getfield 28, 3) := by decide +kernel
theorem dX8_saveSnapshot_23 : decode cX8_saveSnapshot 23 = .ok (.iload_n 1, 1) := by decide +kernel
theorem dX8_saveSnapshot_24 : decode cX8_saveSnapshot 24 = .ok (.aload_n 0, 1) := by decide +kernel
theorem dX8_saveSnapshot_25 : decode cX8_saveSnapshot 25 = .ok (.getfield 7, 3) := by decide +kernel
theorem dX8_saveSnapshot_28 : decode cX8_saveSnapshot 28 = .ok (.iload_n 1, 1) := by decide +kernel
theorem dX8_saveSnapshot_29 : decode cX8_saveSnapshot 29 = .ok (.iaload, 1) := by decide +kernel
theorem dX8_saveSnapshot_30 : decode cX8_saveSnapshot 30 = .ok (.iastore, 1) := by decide +kernel
theorem dX8_saveSnapshot_31 : decode cX8_saveSnapshot 31 = .ok (.iinc 1 1, 3) := by decide +kernel
theorem dX8_saveSnapshot_34 : decode cX8_saveSnapshot 34 = .ok (.goto (-22), 3) := by decide +kernel
theorem dX8_saveSnapshot_37 : decode cX8_saveSnapshot 37 = .ok (.aload_n 0, 1) := by decide +kernel
theorem dX8_saveSnapshot_38 : decode cX8_saveSnapshot 38 = .ok (.invokevirtual 148, 3) := by decide +kernel
theorem dX8_saveSnapshot_41 : decode cX8_saveSnapshot 41 = .ok (.ireturn, 1) := by decide +kernel
theorem dX8_restoreSnapshot_0 : decode cX8_restoreSnapshot 0 = .ok (.aload_n 0, 1) := by decide +kernel
theorem dX8_restoreSnapshot_1 : decode cX8_restoreSnapshot 1 = .ok (.aload_n 0, 1) := by decide +kernel
theorem dX8_restoreSnapshot_2 : decode cX8_restoreSnapshot 2 = .ok (.getfield 339, 3) := by decide +kernel
theorem dX8_restoreSnapshot_5 : decode cX8_restoreSnapshot 5 = .ok (.ifCond .ne 7, 3) := by decide +kernel
theorem dX8_restoreSnapshot_8 : decode cX8_restoreSnapshot 8 = .ok (.iconst 1, 1) := by decide +kernel
theorem dX8_restoreSnapshot_9 : decode cX8_restoreSnapshot 9 = .ok (.goto 4, 3) := by decide +kernel
theorem dX8_restoreSnapshot_12 : decode cX8_restoreSnapshot 12 = .ok (.iconst 0, 1) := by decide +kernel
theorem dX8_restoreSnapshot_13 : decode cX8_restoreSnapshot 13 = .ok (.invokevirtual 315, 3) := by decide +kernel
theorem dX8_restoreSnapshot_16 : decode cX8_restoreSnapshot 16 = .ok (.ifCond .eq 5, 3) := by decide +kernel
theorem dX8_restoreSnapshot_19 : decode cX8_restoreSnapshot 19 = .ok (.iconst 0, 1) := by decide +kernel
theorem dX8_restoreSnapshot_20 : decode cX8_restoreSnapshot 20 = .ok (.ireturn, 1) := by decide +kernel
theorem dX8_restoreSnapshot_21 : decode cX8_restoreSnapshot 21 = .ok (.iconst 0, 1) := by decide +kernel
theorem dX8_restoreSnapshot_22 : decode cX8_restoreSnapshot 22 = .ok (.istore_n 1, 1) := by decide +kernel
theorem dX8_restoreSnapshot_23 : decode cX8_restoreSnapshot 23 = .ok (.iload_n 1, 1) := by decide +kernel
theorem dX8_restoreSnapshot_24 : decode cX8_restoreSnapshot 24 = .ok (.sipush 137, 3) := by decide +kernel
theorem dX8_restoreSnapshot_27 : decode cX8_restoreSnapshot 27 = .ok (.if_icmp .ge 21, 3) := by decide +kernel
theorem dX8_restoreSnapshot_30 : decode cX8_restoreSnapshot 30 = .ok (.aload_n 0, 1) := by decide +kernel
theorem dX8_restoreSnapshot_31 : decode cX8_restoreSnapshot 31 = .ok (.getfield 7, 3) := by decide +kernel
theorem dX8_restoreSnapshot_34 : decode cX8_restoreSnapshot 34 = .ok (.iload_n 1, 1) := by decide +kernel
theorem dX8_restoreSnapshot_35 : decode cX8_restoreSnapshot 35 = .ok (.aload_n 0, 1) := by decide +kernel
theorem dX8_restoreSnapshot_36 : decode cX8_restoreSnapshot 36 = .ok (.getfield 28, 3) := by decide +kernel
theorem dX8_restoreSnapshot_39 : decode cX8_restoreSnapshot 39 = .ok (.iload_n 1, 1) := by decide +kernel
theorem dX8_restoreSnapshot_40 : decode cX8_restoreSnapshot 40 = .ok (.iaload, 1) := by decide +kernel
theorem dX8_restoreSnapshot_41 : decode cX8_restoreSnapshot 41 = .ok (.iastore, 1) := by decide +kernel
theorem dX8_restoreSnapshot_42 : decode cX8_restoreSnapshot 42 = .ok (.iinc 1 1, 3) := by decide +kernel
theorem dX8_restoreSnapshot_45 : decode cX8_restoreSnapshot 45 = .ok (.goto (-22), 3) := by decide +kernel
theorem dX8_restoreSnapshot_48 : decode cX8_restoreSnapshot 48 = .ok (.aload_n 0, 1) := by decide +kernel
theorem dX8_restoreSnapshot_49 : decode cX8_restoreSnapshot 49 = .ok (.iconst 0, 1) := by decide +kernel
theorem dX8_restoreSnapshot_50 : decode cX8_restoreSnapshot 50 = .ok (.putfield 318, 3) := by decide +kernel
theorem dX8_restoreSnapshot_53 : decode cX8_restoreSnapshot 53 = .ok (.aload_n 0, 1) := by decide +kernel
theorem dX8_restoreSnapshot_54 : decode cX8_restoreSnapshot 54 = .ok (.invokevirtual 148, 3) := by decide +kernel
theorem dX8_restoreSnapshot_57 : decode cX8_restoreSnapshot 57 = .ok (.ireturn, 1) := by decide +kernel
theorem dX8_scriptErrorKind_0 : decode cX8_scriptErrorKind 0 = .ok (.aload_n 0, 1) := by decide +kernel
theorem dX8_scriptErrorKind_1 : decode cX8_scriptErrorKind 1 = .ok (.iconst 0, 1) := by decide +kernel
theorem dX8_scriptErrorKind_2 : decode cX8_scriptErrorKind 2 = .ok (.putfield 64, 3) := by decide +kernel
theorem dX8_scriptErrorKind_5 : decode cX8_scriptErrorKind 5 = .ok (.aload_n 0, 1) := by decide +kernel
theorem dX8_scriptErrorKind_6 : decode cX8_scriptErrorKind 6 = .ok (.getfield 179, 3) := by decide +kernel
theorem dX8_scriptErrorKind_9 : decode cX8_scriptErrorKind 9 = .ok (.ireturn, 1) := by decide +kernel
theorem dX8_scriptErrorOffset_0 : decode cX8_scriptErrorOffset 0 = .ok (.aload_n 0, 1) := by decide +kernel
theorem dX8_scriptErrorOffset_1 : decode cX8_scriptErrorOffset 1 = .ok (.iconst 0, 1) := by decide +kernel
theorem dX8_scriptErrorOffset_2 : decode cX8_scriptErrorOffset 2 = .ok (.putfield 64, 3) := by decide +kernel
theorem dX8_scriptErrorOffset_5 : decode cX8_scriptErrorOffset 5 = .ok (.aload_n 0, 1) := by decide +kernel
theorem dX8_scriptErrorOffset_6 : decode cX8_scriptErrorOffset 6 = .ok (.getfield 43, 3) := by decide +kernel
theorem dX8_scriptErrorOffset_9 : decode cX8_scriptErrorOffset 9 = .ok (.ireturn, 1) := by decide +kernel
theorem dX8_told_0 : decode cX8_told 0 = .ok (.aload_n 0, 1) := by decide +kernel
theorem dX8_told_1 : decode cX8_told 1 = .ok (.iconst 0, 1) := by decide +kernel
theorem dX8_told_2 : decode cX8_told 2 = .ok (.putfield 64, 3) := by decide +kernel
theorem dX8_told_5 : decode cX8_told 5 = .ok (.aload_n 0, 1) := by decide +kernel
theorem dX8_told_6 : decode cX8_told 6 = .ok (.getfield 7, 3) := by decide +kernel
theorem dX8_told_9 : decode cX8_told 9 = .ok (.iload_n 1, 1) := by decide +kernel
theorem dX8_told_10 : decode cX8_told 10 = .ok (.iaload, 1) := by decide +kernel
theorem dX8_told_11 : decode cX8_told 11 = .ok (.ireturn, 1) := by decide +kernel
theorem dX8_bucketCount_0 : decode cX8_bucketCount 0 = .ok (.aload_n 0, 1) := by decide +kernel
theorem dX8_bucketCount_1 : decode cX8_bucketCount 1 = .ok (.iconst 0, 1) := by decide +kernel
theorem dX8_bucketCount_2 : decode cX8_bucketCount 2 = .ok (.invokevirtual 343, 3) := by decide +kernel
theorem dX8_bucketCount_5 : decode cX8_bucketCount 5 = .ok (.ireturn, 1) := by decide +kernel
theorem dX8_entryCount_0 : decode cX8_entryCount 0 = .ok (.aload_n 0, 1) := by decide +kernel
theorem dX8_entryCount_1 : decode cX8_entryCount 1 = .ok (.iconst 0, 1) := by decide +kernel
theorem dX8_entryCount_2 : decode cX8_entryCount 2 = .ok (.putfield 64, 3) := by decide +kernel
theorem dX8_entryCount_5 : decode cX8_entryCount 5 = .ok (.aload_n 0, 1) := by decide +kernel
theorem dX8_entryCount_6 : decode cX8_entryCount 6 = .ok (.invokevirtual 148, 3) := by decide +kernel
theorem dX8_entryCount_9 : decode cX8_entryCount 9 = .ok (.ireturn, 1) := by decide +kernel
theorem dX8_neighbourhood_0 : decode cX8_neighbourhood 0 = .ok (.aload_n 0, 1) := by decide +kernel
theorem dX8_neighbourhood_1 : decode cX8_neighbourhood 1 = .ok (.iconst 1, 1) := by decide +kernel
theorem dX8_neighbourhood_2 : decode cX8_neighbourhood 2 = .ok (.invokevirtual 343, 3) := by decide +kernel
theorem dX8_neighbourhood_5 : decode cX8_neighbourhood 5 = .ok (.ireturn, 1) := by decide +kernel
theorem dX8_multiplier_0 : decode cX8_multiplier 0 = .ok (.aload_n 0, 1) := by decide +kernel
theorem dX8_multiplier_1 : decode cX8_multiplier 1 = .ok (.iconst 2, 1) := by decide +kernel
theorem dX8_multiplier_2 : decode cX8_multiplier 2 = .ok (.invokevirtual 343, 3) := by decide +kernel
theorem dX8_multiplier_5 : decode cX8_multiplier 5 = .ok (.ireturn, 1) := by decide +kernel
theorem dX8_isPulling_0 : decode cX8_isPulling 0 = .ok (.aload_n 0, 1) := by decide +kernel
theorem dX8_isPulling_1 : decode cX8_isPulling 1 = .ok (.iconst 3, 1) := by decide +kernel
theorem dX8_isPulling_2 : decode cX8_isPulling 2 = .ok (.invokevirtual 343, 3) := by decide +kernel
theorem dX8_isPulling_5 : decode cX8_isPulling 5 = .ok (.iconst 1, 1) := by decide +kernel
theorem dX8_isPulling_6 : decode cX8_isPulling 6 = .ok (.if_icmp .ne 7, 3) := by decide +kernel
theorem dX8_isPulling_9 : decode cX8_isPulling 9 = .ok (.iconst 1, 1) := by decide +kernel
theorem dX8_isPulling_10 : decode cX8_isPulling 10 = .ok (.goto 4, 3) := by decide +kernel
theorem dX8_isPulling_13 : decode cX8_isPulling 13 = .ok (.iconst 0, 1) := by decide +kernel
theorem dX8_isPulling_14 : decode cX8_isPulling 14 = .ok (.ireturn, 1) := by decide +kernel
theorem dX8_keyAt_0 : decode cX8_keyAt 0 = .ok (.aload_n 0, 1) := by decide +kernel
theorem dX8_keyAt_1 : decode cX8_keyAt 1 = .ok (.aload_n 0, 1) := by decide +kernel
theorem dX8_keyAt_2 : decode cX8_keyAt 2 = .ok (.iload_n 1, 1) := by decide +kernel
theorem dX8_keyAt_3 : decode cX8_keyAt 3 = .ok (.invokevirtual 346, 3) := by decide +kernel
theorem dX8_keyAt_6 : decode cX8_keyAt 6 = .ok (.ifCond .ne 7, 3) := by decide +kernel
theorem dX8_keyAt_9 : decode cX8_keyAt 9 = .ok (.iconst 1, 1) := by decide +kernel
theorem dX8_keyAt_10 : decode cX8_keyAt 10 = .ok (.goto 4, 3) := by decide +kernel
theorem dX8_keyAt_13 : decode cX8_keyAt 13 = .ok (.iconst 0, 1) := by decide +kernel
theorem dX8_keyAt_14 : decode cX8_keyAt 14 = .ok (.invokevirtual 315, 3) := by decide +kernel
theorem dX8_keyAt_17 : decode cX8_keyAt 17 = .ok (.ifCond .eq 7, 3) := by decide +kernel
theorem dX8_keyAt_20 : decode cX8_keyAt 20 = .ok (.iconst 0, 1) := by decide +kernel
theorem dX8_keyAt_21 : decode cX8_keyAt 21 = .ok (.goto 8, 3) := by decide +kernel
theorem dX8_keyAt_24 : decode cX8_keyAt 24 = .ok (.aload_n 0, 1) := by decide +kernel
theorem dX8_keyAt_25 : decode cX8_keyAt 25 = .ok (.iload_n 1, 1) := by decide +kernel
theorem dX8_keyAt_26 : decode cX8_keyAt 26 = .ok (.invokevirtual 71, 3) := by decide +kernel
theorem dX8_keyAt_29 : decode cX8_keyAt 29 = .ok (.ireturn, 1) := by decide +kernel
theorem dX8_valueAt_0 : decode cX8_valueAt 0 = .ok (.aload_n 0, 1) := by decide +kernel
theorem dX8_valueAt_1 : decode cX8_valueAt 1 = .ok (.aload_n 0, 1) := by decide +kernel
theorem dX8_valueAt_2 : decode cX8_valueAt 2 = .ok (.iload_n 1, 1) := by decide +kernel
theorem dX8_valueAt_3 : decode cX8_valueAt 3 = .ok (.invokevirtual 346, 3) := by decide +kernel
theorem dX8_valueAt_6 : decode cX8_valueAt 6 = .ok (.ifCond .ne 7, 3) := by decide +kernel
theorem dX8_valueAt_9 : decode cX8_valueAt 9 = .ok (.iconst 1, 1) := by decide +kernel
theorem dX8_valueAt_10 : decode cX8_valueAt 10 = .ok (.goto 4, 3) := by decide +kernel
theorem dX8_valueAt_13 : decode cX8_valueAt 13 = .ok (.iconst 0, 1) := by decide +kernel
theorem dX8_valueAt_14 : decode cX8_valueAt 14 = .ok (.invokevirtual 315, 3) := by decide +kernel
theorem dX8_valueAt_17 : decode cX8_valueAt 17 = .ok (.ifCond .eq 7, 3) := by decide +kernel
theorem dX8_valueAt_20 : decode cX8_valueAt 20 = .ok (.iconst 0, 1) := by decide +kernel
theorem dX8_valueAt_21 : decode cX8_valueAt 21 = .ok (.goto 24, 3) := by decide +kernel
theorem dX8_valueAt_24 : decode cX8_valueAt 24 = .ok (.aload_n 0, 1) := by decide +kernel
theorem dX8_valueAt_25 : decode cX8_valueAt 25 = .ok (.iload_n 1, 1) := by decide +kernel
theorem dX8_valueAt_26 : decode cX8_valueAt 26 = .ok (.invokevirtual 82, 3) := by decide +kernel
theorem dX8_valueAt_29 : decode cX8_valueAt 29 = .ok (.ifCond .eq 7, 3) := by decide +kernel
theorem dX8_valueAt_32 : decode cX8_valueAt 32 = .ok (.iconst (-1), 1) := by decide +kernel
theorem dX8_valueAt_33 : decode cX8_valueAt 33 = .ok (.goto 12, 3) := by decide +kernel
theorem dX8_valueAt_36 : decode cX8_valueAt 36 = .ok (.aload_n 0, 1) := by decide +kernel
theorem dX8_valueAt_37 : decode cX8_valueAt 37 = .ok (.getfield 7, 3) := by decide +kernel
theorem dX8_valueAt_40 : decode cX8_valueAt 40 = .ok (.bipush 73, 2) := by decide +kernel
theorem dX8_valueAt_42 : decode cX8_valueAt 42 = .ok (.iload_n 1, 1) := by decide +kernel
theorem dX8_valueAt_43 : decode cX8_valueAt 43 = .ok (.iadd, 1) := by decide +kernel
theorem dX8_valueAt_44 : decode cX8_valueAt 44 = .ok (.iaload, 1) := by decide +kernel
theorem dX8_valueAt_45 : decode cX8_valueAt 45 = .ok (.ireturn, 1) := by decide +kernel
theorem dX8_hopBits_0 : decode cX8_hopBits 0 = .ok (.aload_n 0, 1) := by decide +kernel
theorem dX8_hopBits_1 : decode cX8_hopBits 1 = .ok (.aload_n 0, 1) := by decide +kernel
theorem dX8_hopBits_2 : decode cX8_hopBits 2 = .ok (.iload_n 1, 1) := by decide +kernel
theorem dX8_hopBits_3 : decode cX8_hopBits 3 = .ok (.invokevirtual 346, 3) := by decide +kernel
theorem dX8_hopBits_6 : decode cX8_hopBits 6 = .ok (.ifCond .ne 7, 3) := by decide +kernel
theorem dX8_hopBits_9 : decode cX8_hopBits 9 = .ok (.iconst 1, 1) := by decide +kernel
theorem dX8_hopBits_10 : decode cX8_hopBits 10 = .ok (.goto 4, 3) := by decide +kernel
theorem dX8_hopBits_13 : decode cX8_hopBits 13 = .ok (.iconst 0, 1) := by decide +kernel
theorem dX8_hopBits_14 : decode cX8_hopBits 14 = .ok (.invokevirtual 315, 3) := by decide +kernel
theorem dX8_hopBits_17 : decode cX8_hopBits 17 = .ok (.ifCond .eq 7, 3) := by decide +kernel
theorem dX8_hopBits_20 : decode cX8_hopBits 20 = .ok (.iconst 0, 1) := by decide +kernel
theorem dX8_hopBits_21 : decode cX8_hopBits 21 = .ok (.goto 8, 3) := by decide +kernel
theorem dX8_hopBits_24 : decode cX8_hopBits 24 = .ok (.aload_n 0, 1) := by decide +kernel
theorem dX8_hopBits_25 : decode cX8_hopBits 25 = .ok (.iload_n 1, 1) := by decide +kernel
theorem dX8_hopBits_26 : decode cX8_hopBits 26 = .ok (.invokevirtual 349, 3) := by decide +kernel
theorem dX8_hopBits_29 : decode cX8_hopBits 29 = .ok (.ireturn, 1) := by decide +kernel
theorem dX8_entriesOf_0 : decode cX8_entriesOf 0 = .ok (.aload_n 0, 1) := by decide +kernel
theorem dX8_entriesOf_1 : decode cX8_entriesOf 1 = .ok (.aload_n 0, 1) := by decide +kernel
theorem dX8_entriesOf_2 : decode cX8_entriesOf 2 = .ok (.iload_n 1, 1) := by decide +kernel
theorem dX8_entriesOf_3 : decode cX8_entriesOf 3 = .ok (.invokevirtual 346, 3) := by decide +kernel
theorem dX8_entriesOf_6 : decode cX8_entriesOf 6 = .ok (.ifCond .ne 7, 3) := by decide +kernel
theorem dX8_entriesOf_9 : decode cX8_entriesOf 9 = .ok (.iconst 1, 1) := by decide +kernel
theorem dX8_entriesOf_10 : decode cX8_entriesOf 10 = .ok (.goto 4, 3) := by decide +kernel
theorem dX8_entriesOf_13 : decode cX8_entriesOf 13 = .ok (.iconst 0, 1) := by decide +kernel
theorem dX8_entriesOf_14 : decode cX8_entriesOf 14 = .ok (.invokevirtual 315, 3) := by decide +kernel
theorem dX8_entriesOf_17 : decode cX8_entriesOf 17 = .ok (.ifCond .eq 7, 3) := by decide +kernel
theorem dX8_entriesOf_20 : decode cX8_entriesOf 20 = .ok (.iconst 0, 1) := by decide +kernel
theorem dX8_entriesOf_21 : decode cX8_entriesOf 21 = .ok (.goto 8, 3) := by decide +kernel
theorem dX8_entriesOf_24 : decode cX8_entriesOf 24 = .ok (.aload_n 0, 1) := by decide +kernel
theorem dX8_entriesOf_25 : decode cX8_entriesOf 25 = .ok (.iload_n 1, 1) := by decide +kernel
theorem dX8_entriesOf_26 : decode cX8_entriesOf 26 = .ok (.invokevirtual 352, 3) := by decide +kernel
theorem dX8_entriesOf_29 : decode cX8_entriesOf 29 = .ok (.ireturn, 1) := by decide +kernel
theorem dX8_freeDistance_0 : decode cX8_freeDistance 0 = .ok (.aload_n 0, 1) := by decide +kernel
theorem dX8_freeDistance_1 : decode cX8_freeDistance 1 = .ok (.aload_n 0, 1) := by decide +kernel
theorem dX8_freeDistance_2 : decode cX8_freeDistance 2 = .ok (.iload_n 1, 1) := by decide +kernel
theorem dX8_freeDistance_3 : decode cX8_freeDistance 3 = .ok (.invokevirtual 346, 3) := by decide +kernel
theorem dX8_freeDistance_6 : decode cX8_freeDistance 6 = .ok (.ifCond .ne 7, 3) := by decide +kernel
theorem dX8_freeDistance_9 : decode cX8_freeDistance 9 = .ok (.iconst 1, 1) := by decide +kernel
theorem dX8_freeDistance_10 : decode cX8_freeDistance 10 = .ok (.goto 4, 3) := by decide +kernel
