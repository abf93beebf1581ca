theorem dX8_freeDistance_13 : decode cX8_freeDistance 13 = .ok (.iconst 0, 1) := by decide +kernel
theorem dX8_freeDistance_14 : decode cX8_freeDistance 14 = .ok (.invokevirtual 315, 3) := by decide +kernel
theorem dX8_freeDistance_17 : decode cX8_freeDistance 17 = .ok (.ifCond .eq 7, 3) := by decide +kernel
theorem dX8_freeDistance_20 : decode cX8_freeDistance 20 = .ok (.iconst 0, 1) := by decide +kernel
theorem dX8_freeDistance_21 : decode cX8_freeDistance 21 = .ok (.goto 8, 3) := by decide +kernel
theorem dX8_freeDistance_24 : decode cX8_freeDistance 24 = .ok (.aload_n 0, 1) := by decide +kernel
theorem dX8_freeDistance_25 : decode cX8_freeDistance 25 = .ok (.iload_n 1, 1) := by decide +kernel
theorem dX8_freeDistance_26 : decode cX8_freeDistance 26 = .ok (.invokevirtual 100, 3) := by decide +kernel
theorem dX8_freeDistance_29 : decode cX8_freeDistance 29 = .ok (.ireturn, 1) := by decide +kernel
theorem dX8_longestRun_0 : decode cX8_longestRun 0 = .ok (.aload_n 0, 1) := by decide +kernel
theorem dX8_longestRun_1 : decode cX8_longestRun 1 = .ok (.iconst 0, 1) := by decide +kernel
theorem dX8_longestRun_2 : decode cX8_longestRun 2 = .ok (.putfield 64, 3) := by decide +kernel
theorem dX8_longestRun_5 : decode cX8_longestRun 5 = .ok (.iconst 0, 1) := by decide +kernel
theorem dX8_longestRun_6 : decode cX8_longestRun 6 = .ok (.istore_n 1, 1) := by decide +kernel
theorem dX8_longestRun_7 : decode cX8_longestRun 7 = .ok (.iconst 0, 1) := by decide +kernel
theorem dX8_longestRun_8 : decode cX8_longestRun 8 = .ok (.istore_n 2, 1) := by decide +kernel
theorem dX8_longestRun_9 : decode cX8_longestRun 9 = .ok (.iconst 0, 1) := by decide +kernel
theorem dX8_longestRun_10 : decode cX8_longestRun 10 = .ok (.istore_n 3, 1) := by decide +kernel
theorem dX8_longestRun_11 : decode cX8_longestRun 11 = .ok (.iload_n 3, 1) := by decide +kernel
theorem dX8_longestRun_12 : decode cX8_longestRun 12 = .ok (.iconst 2, 1) := by decide +kernel
theorem dX8_longestRun_13 : decode cX8_longestRun 13 = .ok (.aload_n 0, 1) := by decide +kernel
theorem dX8_longestRun_14 : decode cX8_longestRun 14 = .ok (.getfield 7, 3) := by decide +kernel
theorem dX8_longestRun_17 : decode cX8_longestRun 17 = .ok (.iconst 0, 1) := by decide +kernel
theorem dX8_longestRun_18 : decode cX8_longestRun 18 = .ok (.iaload, 1) := by decide +kernel
theorem dX8_longestRun_19 : decode cX8_longestRun 19 = .ok (.imul, 1) := by decide +kernel
theorem dX8_longestRun_20 : decode cX8_longestRun 20 = .ok (.if_icmp .ge 38, 3) := by decide +kernel
theorem dX8_longestRun_23 : decode cX8_longestRun 23 = .ok (.aload_n 0, 1) := by decide +kernel
theorem dX8_longestRun_24 : decode cX8_longestRun 24 = .ok (.iload_n 3, 1) := by decide +kernel
theorem dX8_longestRun_25 : decode cX8_longestRun 25 = .ok (.aload_n 0, 1) := by decide +kernel
theorem dX8_longestRun_26 : decode cX8_longestRun 26 = .ok (.getfield 7, 3) := by decide +kernel
theorem dX8_longestRun_29 : decode cX8_longestRun 29 = .ok (.iconst 0, 1) := by decide +kernel
theorem dX8_longestRun_30 : decode cX8_longestRun 30 = .ok (.iaload, 1) := by decide +kernel
theorem dX8_longestRun_31 : decode cX8_longestRun 31 = .ok (.irem, 1) := by decide +kernel
theorem dX8_longestRun_32 : decode cX8_longestRun 32 = .ok (.invokevirtual 82, 3) := by decide +kernel
theorem dX8_longestRun_35 : decode cX8_longestRun 35 = .ok (.ifCond .eq 7, 3) := by decide +kernel
theorem dX8_longestRun_38 : decode cX8_longestRun 38 = .ok (.iconst 0, 1) := by decide +kernel
theorem dX8_longestRun_39 : decode cX8_longestRun 39 = .ok (.goto 6, 3) := by decide +kernel
theorem dX8_longestRun_42 : decode cX8_longestRun 42 = .ok (.iload_n 2, 1) := by decide +kernel
theorem dX8_longestRun_43 : decode cX8_longestRun 43 = .ok (.iconst 1, 1) := by decide +kernel
theorem dX8_longestRun_44 : decode cX8_longestRun 44 = .ok (.iadd, 1) := by decide +kernel
theorem dX8_longestRun_45 : decode cX8_longestRun 45 = .ok (.istore_n 2, 1) := by decide +kernel
theorem dX8_longestRun_46 : decode cX8_longestRun 46 = .ok (.iload_n 1, 1) := by decide +kernel
theorem dX8_longestRun_47 : decode cX8_longestRun 47 = .ok (.iload_n 2, 1) := by decide +kernel
theorem dX8_longestRun_48 : decode cX8_longestRun 48 = .ok (.invokestatic 355, 3) := by decide +kernel
theorem dX8_longestRun_51 : decode cX8_longestRun 51 = .ok (.istore_n 1, 1) := by decide +kernel
theorem dX8_longestRun_52 : decode cX8_longestRun 52 = .ok (.iinc 3 1, 3) := by decide +kernel
theorem dX8_longestRun_55 : decode cX8_longestRun 55 = .ok (.goto (-44), 3) := by decide +kernel
theorem dX8_longestRun_58 : decode cX8_longestRun 58 = .ok (.iload_n 1, 1) := by decide +kernel
theorem dX8_longestRun_59 : decode cX8_longestRun 59 = .ok (.aload_n 0, 1) := by decide +kernel
theorem dX8_longestRun_60 : decode cX8_longestRun 60 = .ok (.getfield 7, 3) := by decide +kernel
theorem dX8_longestRun_63 : decode cX8_longestRun 63 = .ok (.iconst 0, 1) := by decide +kernel
theorem dX8_longestRun_64 : decode cX8_longestRun 64 = .ok (.iaload, 1) := by decide +kernel
theorem dX8_longestRun_65 : decode cX8_longestRun 65 = .ok (.invokestatic 207, 3) := by decide +kernel
theorem dX8_longestRun_68 : decode cX8_longestRun 68 = .ok (.ireturn, 1) := by decide +kernel
theorem dX8_fullestHome_0 : decode cX8_fullestHome 0 = .ok (.aload_n 0, 1) := by decide +kernel
theorem dX8_fullestHome_1 : decode cX8_fullestHome 1 = .ok (.iconst 0, 1) := by decide +kernel
theorem dX8_fullestHome_2 : decode cX8_fullestHome 2 = .ok (.putfield 64, 3) := by decide +kernel
theorem dX8_fullestHome_5 : decode cX8_fullestHome 5 = .ok (.iconst (-1), 1) := by decide +kernel
theorem dX8_fullestHome_6 : decode cX8_fullestHome 6 = .ok (.istore_n 1, 1) := by decide +kernel
theorem dX8_fullestHome_7 : decode cX8_fullestHome 7 = .ok (.iconst 0, 1) := by decide +kernel
theorem dX8_fullestHome_8 : decode cX8_fullestHome 8 = .ok (.istore_n 2, 1) := by decide +kernel
theorem dX8_fullestHome_9 : decode cX8_fullestHome 9 = .ok (.iload_n 2, 1) := by decide +kernel
theorem dX8_fullestHome_10 : decode cX8_fullestHome 10 = .ok (.aload_n 0, 1) := by decide +kernel
theorem dX8_fullestHome_11 : decode cX8_fullestHome 11 = .ok (.getfield 7, 3) := by decide +kernel
theorem dX8_fullestHome_14 : decode cX8_fullestHome 14 = .ok (.iconst 0, 1) := by decide +kernel
theorem dX8_fullestHome_15 : decode cX8_fullestHome 15 = .ok (.iaload, 1) := by decide +kernel
theorem dX8_fullestHome_16 : decode cX8_fullestHome 16 = .ok (.if_icmp .ge 33, 3) := by decide +kernel
theorem dX8_fullestHome_19 : decode cX8_fullestHome 19 = .ok (.aload_n 0, 1) := by decide +kernel
theorem dX8_fullestHome_20 : decode cX8_fullestHome 20 = .ok (.iload_n 2, 1) := by decide +kernel
theorem dX8_fullestHome_21 : decode cX8_fullestHome 21 = .ok (.invokevirtual 352, 3) := by decide +kernel
theorem dX8_fullestHome_24 : decode cX8_fullestHome 24 = .ok (.iload_n 1, 1) := by decide +kernel
theorem dX8_fullestHome_25 : decode cX8_fullestHome 25 = .ok (.iconst (-1), 1) := by decide +kernel
theorem dX8_fullestHome_26 : decode cX8_fullestHome 26 = .ok (.if_icmp .ne 7, 3) := by decide +kernel
theorem dX8_fullestHome_29 : decode cX8_fullestHome 29 = .ok (.iconst 0, 1) := by decide +kernel
theorem dX8_fullestHome_30 : decode cX8_fullestHome 30 = .ok (.goto 8, 3) := by decide +kernel
theorem dX8_fullestHome_33 : decode cX8_fullestHome 33 = .ok (.aload_n 0, 1) := by decide +kernel
theorem dX8_fullestHome_34 : decode cX8_fullestHome 34 = .ok (.iload_n 1, 1) := by decide +kernel
theorem dX8_fullestHome_35 : decode cX8_fullestHome 35 = .ok (.invokevirtual 352, 3) := by decide +kernel
theorem dX8_fullestHome_38 : decode cX8_fullestHome 38 = .ok (.if_icmp .le 5, 3) := by decide +kernel
theorem dX8_fullestHome_41 : decode cX8_fullestHome 41 = .ok (.iload_n 2, 1) := by decide +kernel
theorem dX8_fullestHome_42 : decode cX8_fullestHome 42 = .ok (.istore_n 1, 1) := by decide +kernel
theorem dX8_fullestHome_43 : decode cX8_fullestHome 43 = .ok (.iinc 2 1, 3) := by decide +kernel
theorem dX8_fullestHome_46 : decode cX8_fullestHome 46 = .ok (.goto (-37), 3) := by decide +kernel
theorem dX8_fullestHome_49 : decode cX8_fullestHome 49 = .ok (.iload_n 1, 1) := by decide +kernel
theorem dX8_fullestHome_50 : decode cX8_fullestHome 50 = .ok (.ireturn, 1) := by decide +kernel
theorem dX8_homeOf_0 : decode cX8_homeOf 0 = .ok (.aload_n 0, 1) := by decide +kernel
theorem dX8_homeOf_1 : decode cX8_homeOf 1 = .ok (.iload_n 1, 1) := by decide +kernel
theorem dX8_homeOf_2 : decode cX8_homeOf 2 = .ok (.invokestatic 327, 3) := by decide +kernel
theorem dX8_homeOf_5 : decode cX8_homeOf 5 = .ok (.ifCond .ne 7, 3) := by decide +kernel
theorem dX8_homeOf_8 : decode cX8_homeOf 8 = .ok (.iconst 1, 1) := by decide +kernel
theorem dX8_homeOf_9 : decode cX8_homeOf 9 = .ok (.goto 4, 3) := by decide +kernel
theorem dX8_homeOf_12 : decode cX8_homeOf 12 = .ok (.iconst 0, 1) := by decide +kernel
theorem dX8_homeOf_13 : decode cX8_homeOf 13 = .ok (.invokevirtual 315, 3) := by decide +kernel
theorem dX8_homeOf_16 : decode cX8_homeOf 16 = .ok (.ifCond .eq 7, 3) := by decide +kernel
theorem dX8_homeOf_19 : decode cX8_homeOf 19 = .ok (.iconst 0, 1) := by decide +kernel
theorem dX8_homeOf_20 : decode cX8_homeOf 20 = .ok (.goto 8, 3) := by decide +kernel
theorem dX8_homeOf_23 : decode cX8_homeOf 23 = .ok (.aload_n 0, 1) := by decide +kernel
theorem dX8_homeOf_24 : decode cX8_homeOf 24 = .ok (.iload_n 1, 1) := by decide +kernel
theorem dX8_homeOf_25 : decode cX8_homeOf 25 = .ok (.invokevirtual 75, 3) := by decide +kernel
theorem dX8_homeOf_28 : decode cX8_homeOf 28 = .ok (.ireturn, 1) := by decide +kernel
theorem dX8_bucketOf_0 : decode cX8_bucketOf 0 = .ok (.aload_n 0, 1) := by decide +kernel
theorem dX8_bucketOf_1 : decode cX8_bucketOf 1 = .ok (.iload_n 1, 1) := by decide +kernel
theorem dX8_bucketOf_2 : decode cX8_bucketOf 2 = .ok (.invokestatic 327, 3) := by decide +kernel
theorem dX8_bucketOf_5 : decode cX8_bucketOf 5 = .ok (.ifCond .ne 7, 3) := by decide +kernel
theorem dX8_bucketOf_8 : decode cX8_bucketOf 8 = .ok (.iconst 1, 1) := by decide +kernel
theorem dX8_bucketOf_9 : decode cX8_bucketOf 9 = .ok (.goto 4, 3) := by decide +kernel
theorem dX8_bucketOf_12 : decode cX8_bucketOf 12 = .ok (.iconst 0, 1) := by decide +kernel
theorem dX8_bucketOf_13 : decode cX8_bucketOf 13 = .ok (.invokevirtual 315, 3) := by decide +kernel
theorem dX8_bucketOf_16 : decode cX8_bucketOf 16 = .ok (.ifCond .eq 7, 3) := by decide +kernel
theorem dX8_bucketOf_19 : decode cX8_bucketOf 19 = .ok (.iconst 0, 1) := by decide +kernel
theorem dX8_bucketOf_20 : decode cX8_bucketOf 20 = .ok (.goto 8, 3) := by decide +kernel
theorem dX8_bucketOf_23 : decode cX8_bucketOf 23 = .ok (.aload_n 0, 1) := by decide +kernel
theorem dX8_bucketOf_24 : decode cX8_bucketOf 24 = .ok (.iload_n 1, 1) := by decide +kernel
theorem dX8_bucketOf_25 : decode cX8_bucketOf 25 = .ok (.invokevirtual 129, 3) := by decide +kernel
theorem dX8_bucketOf_28 : decode cX8_bucketOf 28 = .ok (.ireturn, 1) := by decide +kernel
theorem dX8_valueOf_0 : decode cX8_valueOf 0 = .ok (.aload_n 0, 1) := by decide +kernel
theorem dX8_valueOf_1 : decode cX8_valueOf 1 = .ok (.iload_n 1, 1) := by decide +kernel
theorem dX8_valueOf_2 : decode cX8_valueOf 2 = .ok (.invokestatic 327, 3) := by decide +kernel
theorem dX8_valueOf_5 : decode cX8_valueOf 5 = .ok (.ifCond .ne 7, 3) := by decide +kernel
theorem dX8_valueOf_8 : decode cX8_valueOf 8 = .ok (.iconst 1, 1) := by decide +kernel
theorem dX8_valueOf_9 : decode cX8_valueOf 9 = .ok (.goto 4, 3) := by decide +kernel
theorem dX8_valueOf_12 : decode cX8_valueOf 12 = .ok (.iconst 0, 1) := by decide +kernel
theorem dX8_valueOf_13 : decode cX8_valueOf 13 = .ok (.invokevirtual 315, 3) := by decide +kernel
theorem dX8_valueOf_16 : decode cX8_valueOf 16 = .ok (.ifCond .eq 5, 3) := by decide +kernel
theorem dX8_valueOf_19 : decode cX8_valueOf 19 = .ok (.iconst 0, 1) := by decide +kernel
theorem dX8_valueOf_20 : decode cX8_valueOf 20 = .ok (.ireturn, 1) := by decide +kernel
theorem dX8_valueOf_21 : decode cX8_valueOf 21 = .ok (.aload_n 0, 1) := by decide +kernel
theorem dX8_valueOf_22 : decode cX8_valueOf 22 = .ok (.iload_n 1, 1) := by decide +kernel
theorem dX8_valueOf_23 : decode cX8_valueOf 23 = .ok (.invokevirtual 129, 3) := by decide +kernel
theorem dX8_valueOf_26 : decode cX8_valueOf 26 = .ok (.istore_n 2, 1) := by decide +kernel
theorem dX8_valueOf_27 : decode cX8_valueOf 27 = .ok (.iload_n 2, 1) := by decide +kernel
theorem dX8_valueOf_28 : decode cX8_valueOf 28 = .ok (.iconst (-1), 1) := by decide +kernel
theorem dX8_valueOf_29 : decode cX8_valueOf 29 = .ok (.if_icmp .ne 7, 3) := by decide +kernel
theorem dX8_valueOf_32 : decode cX8_valueOf 32 = .ok (.iconst (-1), 1) := by decide +kernel
theorem dX8_valueOf_33 : decode cX8_valueOf 33 = .ok (.goto 12, 3) := by decide +kernel
theorem dX8_valueOf_36 : decode cX8_valueOf 36 = .ok (.aload_n 0, 1) := by decide +kernel
theorem dX8_valueOf_37 : decode cX8_valueOf 37 = .ok (.getfield 7, 3) := by decide +kernel
theorem dX8_valueOf_40 : decode cX8_valueOf 40 = .ok (.bipush 73, 2) := by decide +kernel
theorem dX8_valueOf_42 : decode cX8_valueOf 42 = .ok (.iload_n 2, 1) := by decide +kernel
theorem dX8_valueOf_43 : decode cX8_valueOf 43 = .ok (.iadd, 1) := by decide +kernel
theorem dX8_valueOf_44 : decode cX8_valueOf 44 = .ok (.iaload, 1) := by decide +kernel
theorem dX8_valueOf_45 : decode cX8_valueOf 45 = .ok (.ireturn, 1) := by decide +kernel
theorem dX8_distanceOf_0 : decode cX8_distanceOf 0 = .ok (.aload_n 0, 1) := by decide +kernel
theorem dX8_distanceOf_1 : decode cX8_distanceOf 1 = .ok (.iload_n 1, 1) := by decide +kernel
theorem dX8_distanceOf_2 : decode cX8_distanceOf 2 = .ok (.invokestatic 327, 3) := by decide +kernel
theorem dX8_distanceOf_5 : decode cX8_distanceOf 5 = .ok (.ifCond .ne 7, 3) := by decide +kernel
theorem dX8_distanceOf_8 : decode cX8_distanceOf 8 = .ok (.iconst 1, 1) := by decide +kernel
theorem dX8_distanceOf_9 : decode cX8_distanceOf 9 = .ok (.goto 4, 3) := by decide +kernel
theorem dX8_distanceOf_12 : decode cX8_distanceOf 12 = .ok (.iconst 0, 1) := by decide +kernel
theorem dX8_distanceOf_13 : decode cX8_distanceOf 13 = .ok (.invokevirtual 315, 3) := by decide +kernel
theorem dX8_distanceOf_16 : decode cX8_distanceOf 16 = .ok (.ifCond .eq 5, 3) := by decide +kernel
theorem dX8_distanceOf_19 : decode cX8_distanceOf 19 = .ok (.iconst 0, 1) := by decide +kernel
theorem dX8_distanceOf_20 : decode cX8_distanceOf 20 = .ok (.ireturn, 1) := by decide +kernel
theorem dX8_distanceOf_21 : decode cX8_distanceOf 21 = .ok (.aload_n 0, 1) := by decide +kernel
theorem dX8_distanceOf_22 : decode cX8_distanceOf 22 = .ok (.iload_n 1, 1) := by decide +kernel
theorem dX8_distanceOf_23 : decode cX8_distanceOf 23 = .ok (.invokevirtual 129, 3) := by decide +kernel
theorem dX8_distanceOf_26 : decode cX8_distanceOf 26 = .ok (.istore_n 2, 1) := by decide +kernel
theorem dX8_distanceOf_27 : decode cX8_distanceOf 27 = .ok (.iload_n 2, 1) := by decide +kernel
theorem dX8_distanceOf_28 : decode cX8_distanceOf 28 = .ok (.iconst (-1), 1) := by decide +kernel
theorem dX8_distanceOf_29 : decode cX8_distanceOf 29 = .ok (.if_icmp .ne 7, 3) := by decide +kernel
theorem dX8_distanceOf_32 : decode cX8_distanceOf 32 = .ok (.iconst (-1), 1) := by decide +kernel
theorem dX8_distanceOf_33 : decode cX8_distanceOf 33 = .ok (.goto 8, 3) := by decide +kernel
theorem dX8_distanceOf_36 : decode cX8_distanceOf 36 = .ok (.aload_n 0, 1) := by decide +kernel
theorem dX8_distanceOf_37 : decode cX8_distanceOf 37 = .ok (.iload_n 2, 1) := by decide +kernel
theorem dX8_distanceOf_38 : decode cX8_distanceOf 38 = .ok (.invokevirtual 93, 3) := by decide +kernel
theorem dX8_distanceOf_41 : decode cX8_distanceOf 41 = .ok (.ireturn, 1) := by decide +kernel
theorem dX8_looksFor_0 : decode cX8_looksFor 0 = .ok (.aload_n 0, 1) := by decide +kernel
theorem dX8_looksFor_1 : decode cX8_looksFor 1 = .ok (.iload_n 1, 1) := by decide +kernel
theorem dX8_looksFor_2 : decode cX8_looksFor 2 = .ok (.invokestatic 327, 3) := by decide +kernel
theorem dX8_looksFor_5 : decode cX8_looksFor 5 = .ok (.ifCond .ne 7, 3) := by decide +kernel
theorem dX8_looksFor_8 : decode cX8_looksFor 8 = .ok (.iconst 1, 1) := by decide +kernel
theorem dX8_looksFor_9 : decode cX8_looksFor 9 = .ok (.goto 4, 3) := by decide +kernel
theorem dX8_looksFor_12 : decode cX8_looksFor 12 = .ok (.iconst 0, 1) := by decide +kernel
theorem dX8_looksFor_13 : decode cX8_looksFor 13 = .ok (.invokevirtual 315, 3) := by decide +kernel
theorem dX8_looksFor_16 : decode cX8_looksFor 16 = .ok (.ifCond .eq 5, 3) := by decide +kernel
theorem dX8_looksFor_19 : decode cX8_looksFor 19 = .ok (.iconst 0, 1) := by decide +kernel
theorem dX8_looksFor_20 : decode cX8_looksFor 20 = .ok (.ireturn, 1) := by decide +kernel
theorem dX8_looksFor_21 : decode cX8_looksFor 21 = .ok (.aload_n 0, 1) := by decide +kernel
theorem dX8_looksFor_22 : decode cX8_looksFor 22 = .ok (.iload_n 1, 1) := by decide +kernel
theorem dX8_looksFor_23 : decode cX8_looksFor 23 = .ok (.invokevirtual 75, 3) := by decide +kernel
theorem dX8_looksFor_26 : decode cX8_looksFor 26 = .ok (.istore_n 2, 1) := by decide +kernel
theorem dX8_looksFor_27 : decode cX8_looksFor 27 = .ok (.iconst 0, 1) := by decide +kernel
theorem dX8_looksFor_28 : decode cX8_looksFor 28 = .ok (.istore_n 3, 1) := by decide +kernel
theorem dX8_looksFor_29 : decode cX8_looksFor 29 = .ok (.iconst 0, 1) := by decide +kernel
theorem dX8_looksFor_30 : decode cX8_looksFor 30 = .ok (.istore 4, 2) := by decide +kernel
theorem dX8_looksFor_32 : decode cX8_looksFor 32 = .ok (.iload 4, 2) := by decide +kernel
theorem dX8_looksFor_34 : decode cX8_looksFor 34 = .ok (.aload_n 0, 1) := by decide +kernel
theorem dX8_looksFor_35 : decode cX8_looksFor 35 = .ok (.getfield 7, 3) := by decide +kernel
theorem dX8_looksFor_38 : decode cX8_looksFor 38 = .ok (.iconst 1, 1) := by decide +kernel
theorem dX8_looksFor_39 : decode cX8_looksFor 39 = .ok (.iaload, 1) := by decide +kernel
theorem dX8_looksFor_40 : decode cX8_looksFor 40 = .ok (.if_icmp .ge 48, 3) := by decide +kernel
theorem dX8_looksFor_43 : decode cX8_looksFor 43 = .ok (.aload_n 0, 1) := by decide +kernel
theorem dX8_looksFor_44 : decode cX8_looksFor 44 = .ok (.iload_n 2, 1) := by decide +kernel
theorem dX8_looksFor_45 : decode cX8_looksFor 45 = .ok (.iload 4, 2) := by decide +kernel
theorem dX8_looksFor_47 : decode cX8_looksFor 47 = .ok (.invokevirtual 86, 3) := by decide +kernel
theorem dX8_looksFor_50 : decode cX8_looksFor 50 = .ok (.istore 5, 2) := by decide +kernel
theorem dX8_looksFor_52 : decode cX8_looksFor 52 = .ok (.iload_n 3, 1) := by decide +kernel
theorem dX8_looksFor_53 : decode cX8_looksFor 53 = .ok (.aload_n 0, 1) := by decide +kernel
theorem dX8_looksFor_54 : decode cX8_looksFor 54 = .ok (.iload 5, 2) := by decide +kernel
theorem dX8_looksFor_56 : decode cX8_looksFor 56 = .ok (.iload_n 2, 1) := by decide +kernel
theorem dX8_looksFor_57 : decode cX8_looksFor 57 = .ok (.invokevirtual 89, 3) := by decide +kernel
theorem dX8_looksFor_60 : decode cX8_looksFor 60 = .ok (.ifCond .eq 7, 3) := by decide +kernel
theorem dX8_looksFor_63 : decode cX8_looksFor 63 = .ok (.iconst 1, 1) := by decide +kernel
theorem dX8_looksFor_64 : decode cX8_looksFor 64 = .ok (.goto 4, 3) := by decide +kernel
theorem dX8_looksFor_67 : decode cX8_looksFor 67 = .ok (.iconst 0, 1) := by decide +kernel
theorem dX8_looksFor_68 : decode cX8_looksFor 68 = .ok (.iadd, 1) := by decide +kernel
theorem dX8_looksFor_69 : decode cX8_looksFor 69 = .ok (.istore_n 3, 1) := by decide +kernel
theorem dX8_looksFor_70 : decode cX8_looksFor 70 = .ok (.aload_n 0, 1) := by decide +kernel
theorem dX8_looksFor_71 : decode cX8_looksFor 71 = .ok (.iload 5, 2) := by decide +kernel
theorem dX8_looksFor_73 : decode cX8_looksFor 73 = .ok (.invokevirtual 71, 3) := by decide +kernel
theorem dX8_looksFor_76 : decode cX8_looksFor 76 = .ok (.iload_n 1, 1) := by decide +kernel
theorem dX8_looksFor_77 : decode cX8_looksFor 77 = .ok (.if_icmp .ne 5, 3) := by decide +kernel
theorem dX8_looksFor_80 : decode cX8_looksFor 80 = .ok (.iload_n 3, 1) := by decide +kernel
theorem dX8_looksFor_81 : decode cX8_looksFor 81 = .ok (.ireturn, 1) := by decide +kernel
theorem dX8_looksFor_82 : decode cX8_looksFor 82 = .ok (.iinc 4 1, 3) := by decide +kernel
theorem dX8_looksFor_85 : decode cX8_looksFor 85 = .ok (.goto (-53), 3) := by decide +kernel
theorem dX8_looksFor_88 : decode cX8_looksFor 88 = .ok (.iload_n 3, 1) := by decide +kernel
theorem dX8_looksFor_89 : decode cX8_looksFor 89 = .ok (.ireturn, 1) := by decide +kernel
theorem dX8_longestDistance_0 : decode cX8_longestDistance 0 = .ok (.aload_n 0, 1) := by decide +kernel
theorem dX8_longestDistance_1 : decode cX8_longestDistance 1 = .ok (.iconst 0, 1) := by decide +kernel
theorem dX8_longestDistance_2 : decode cX8_longestDistance 2 = .ok (.putfield 64, 3) := by decide +kernel
theorem dX8_longestDistance_5 : decode cX8_longestDistance 5 = .ok (.iconst 0, 1) := by decide +kernel
theorem dX8_longestDistance_6 : decode cX8_longestDistance 6 = .ok (.istore_n 1, 1) := by decide +kernel
theorem dX8_longestDistance_7 : decode cX8_longestDistance 7 = .ok (.iconst 0, 1) := by decide +kernel
theorem dX8_longestDistance_8 : decode cX8_longestDistance 8 = .ok (.istore_n 2, 1) := by decide +kernel
theorem dX8_longestDistance_9 : decode cX8_longestDistance 9 = .ok (.iload_n 2, 1) := by decide +kernel
theorem dX8_longestDistance_10 : decode cX8_longestDistance 10 = .ok (.aload_n 0, 1) := by decide +kernel
theorem dX8_longestDistance_11 : decode cX8_longestDistance 11 = .ok (.getfield 7, 3) := by decide +kernel
theorem dX8_longestDistance_14 : decode cX8_longestDistance 14 = .ok (.iconst 0, 1) := by decide +kernel
theorem dX8_longestDistance_15 : decode cX8_longestDistance 15 = .ok (.iaload, 1) := by decide +kernel
theorem dX8_longestDistance_16 : decode cX8_longestDistance 16 = .ok (.if_icmp .ge 31, 3) := by decide +kernel
theorem dX8_longestDistance_19 : decode cX8_longestDistance 19 = .ok (.aload_n 0, 1) := by decide +kernel
theorem dX8_longestDistance_20 : decode cX8_longestDistance 20 = .ok (.iload_n 2, 1) := by decide +kernel
theorem dX8_longestDistance_21 : decode cX8_longestDistance 21 = .ok (.invokevirtual 82, 3) := by decide +kernel
theorem dX8_longestDistance_24 : decode cX8_longestDistance 24 = .ok (.ifCond .eq 7, 3) := by decide +kernel
theorem dX8_longestDistance_27 : decode cX8_longestDistance 27 = .ok (.iload_n 1, 1) := by decide +kernel
theorem dX8_longestDistance_28 : decode cX8_longestDistance 28 = .ok (.goto 12, 3) := by decide +kernel
theorem dX8_longestDistance_31 : decode cX8_longestDistance 31 = .ok (.iload_n 1, 1) := by decide +kernel
theorem dX8_longestDistance_32 : decode cX8_longestDistance 32 = .ok (.aload_n 0, 1) := by decide +kernel
theorem dX8_longestDistance_33 : decode cX8_longestDistance 33 = .ok (.iload_n 2, 1) := by decide +kernel
theorem dX8_longestDistance_34 : decode cX8_longestDistance 34 = .ok (.invokevirtual 93, 3) := by decide +kernel
theorem dX8_longestDistance_37 : decode cX8_longestDistance 37 = .ok (.invokestatic 355, 3) := by decide +kernel
theorem dX8_longestDistance_40 : decode cX8_longestDistance 40 = .ok (.istore_n 1, 1) := by decide +kernel
theorem dX8_longestDistance_41 : decode cX8_longestDistance 41 = .ok (.iinc 2 1, 3) := by decide +kernel
theorem dX8_longestDistance_44 : decode cX8_longestDistance 44 = .ok (.goto (-35), 3) := by decide +kernel
theorem dX8_longestDistance_47 : decode cX8_longestDistance 47 = .ok (.iload_n 1, 1) := by decide +kernel
theorem dX8_longestDistance_48 : decode cX8_longestDistance 48 = .ok (.ireturn, 1) := by decide +kernel
theorem dX8_sumOfDistances_0 : decode cX8_sumOfDistances 0 = .ok (.aload_n 0, 1) := by decide +kernel
theorem dX8_sumOfDistances_1 : decode cX8_sumOfDistances 1 = .ok (.iconst 0, 1) := by decide +kernel
theorem dX8_sumOfDistances_2 : decode cX8_sumOfDistances 2 = .ok (.putfield 64, 3) := by decide +kernel
theorem dX8_sumOfDistances_5 : decode cX8_sumOfDistances 5 = .ok (.aload_n 0, 1) := by decide +kernel
theorem dX8_sumOfDistances_6 : decode cX8_sumOfDistances 6 = .ok (.invokevirtual 358, 3) := by decide +kernel
theorem dX8_sumOfDistances_9 : decode cX8_sumOfDistances 9 = .ok (.ireturn, 1) := by decide +kernel
theorem dX8_rank_0 : decode cX8_rank 0 = .ok (.aload_n 0, 1) := by decide +kernel
theorem dX8_rank_1 : decode cX8_rank 1 = .ok (.iload_n 1, 1) := by decide +kernel
theorem dX8_rank_2 : decode cX8_rank 2 = .ok (.invokestatic 327, 3) := by decide +kernel
theorem dX8_rank_5 : decode cX8_rank 5 = .ok (.ifCond .ne 7, 3) := by decide +kernel
theorem dX8_rank_8 : decode cX8_rank 8 = .ok (.iconst 1, 1) := by decide +kernel
theorem dX8_rank_9 : decode cX8_rank 9 = .ok (.goto 4, 3) := by decide +kernel
theorem dX8_rank_12 : decode cX8_rank 12 = .ok (.iconst 0, 1) := by decide +kernel
theorem dX8_rank_13 : decode cX8_rank 13 = .ok (.invokevirtual 315, 3) := by decide +kernel
theorem dX8_rank_16 : decode cX8_rank 16 = .ok (.ifCond .eq 5, 3) := by decide +kernel
theorem dX8_rank_19 : decode cX8_rank 19 = .ok (.iconst 0, 1) := by decide +kernel
theorem dX8_rank_20 : decode cX8_rank 20 = .ok (.ireturn, 1) := by decide +kernel
theorem dX8_rank_21 : decode cX8_rank 21 = .ok (.iconst 0, 1) := by decide +kernel
theorem dX8_rank_22 : decode cX8_rank 22 = .ok (.istore_n 2, 1) := by decide +kernel
theorem dX8_rank_23 : decode cX8_rank 23 = .ok (.iconst 0, 1) := by decide +kernel
theorem dX8_rank_24 : decode cX8_rank 24 = .ok (.istore_n 3, 1) := by decide +kernel
theorem dX8_rank_25 : decode cX8_rank 25 = .ok (.iload_n 3, 1) := by decide +kernel
theorem dX8_rank_26 : decode cX8_rank 26 = .ok (.aload_n 0, 1) := by decide +kernel
theorem dX8_rank_27 : decode cX8_rank 27 = .ok (.getfield 7, 3) := by decide +kernel
theorem dX8_rank_30 : decode cX8_rank 30 = .ok (.iconst 0, 1) := by decide +kernel
theorem dX8_rank_31 : decode cX8_rank 31 = .ok (.iaload, 1) := by decide +kernel
theorem dX8_rank_32 : decode cX8_rank 32 = .ok (.if_icmp .ge 34, 3) := by decide +kernel
theorem dX8_rank_35 : decode cX8_rank 35 = .ok (.iload_n 2, 1) := by decide +kernel
theorem dX8_rank_36 : decode cX8_rank 36 = .ok (.aload_n 0, 1) := by decide +kernel
theorem dX8_rank_37 : decode cX8_rank 37 = .ok (.iload_n 3, 1) := by decide +kernel
theorem dX8_rank_38 : decode cX8_rank 38 = .ok (.invokevirtual 82, 3) := by decide +kernel
theorem dX8_rank_41 : decode cX8_rank 41 = .ok (.ifCond .ne 16, 3) := by decide +kernel
theorem dX8_rank_44 : decode cX8_rank 44 = .ok (.aload_n 0, 1) := by decide +kernel
theorem dX8_rank_45 : decode cX8_rank 45 = .ok (.iload_n 3, 1) := by decide +kernel
theorem dX8_rank_46 : decode cX8_rank 46 = .ok (.invokevirtual 71, 3) := by decide +kernel
theorem dX8_rank_49 : decode cX8_rank 49 = .ok (.iload_n 1, 1) := by decide +kernel
theorem dX8_rank_50 : decode cX8_rank 50 = .ok (.if_icmp .ge 7, 3) := by decide +kernel
theorem dX8_rank_53 : decode cX8_rank 53 = .ok (.iconst 1, 1) := by decide +kernel
theorem dX8_rank_54 : decode cX8_rank 54 = .ok (.goto 4, 3) := by decide +kernel
theorem dX8_rank_57 : decode cX8_rank 57 = .ok (.iconst 0, 1) := by decide +kernel
theorem dX8_rank_58 : decode cX8_rank 58 = .ok (.iadd, 1) := by decide +kernel
theorem dX8_rank_59 : decode cX8_rank 59 = .ok (.istore_n 2, 1) := by decide +kernel
theorem dX8_rank_60 : decode cX8_rank 60 = .ok (.iinc 3 1, 3) := by decide +kernel
theorem dX8_rank_63 : decode cX8_rank 63 = .ok (.goto (-38), 3) := by decide +kernel
theorem dX8_rank_66 : decode cX8_rank 66 = .ok (.iload_n 2, 1) := by decide +kernel
theorem dX8_rank_67 : decode cX8_rank 67 = .ok (.ireturn, 1) := by decide +kernel
theorem dX8_whyNoAdd_0 : decode cX8_whyNoAdd 0 = .ok (.aload_n 0, 1) := by decide +kernel
theorem dX8_whyNoAdd_1 : decode cX8_whyNoAdd 1 = .ok (.iload_n 1, 1) := by decide +kernel
theorem dX8_whyNoAdd_2 : decode cX8_whyNoAdd 2 = .ok (.invokestatic 327, 3) := by decide +kernel
theorem dX8_whyNoAdd_5 : decode cX8_whyNoAdd 5 = .ok (.ifCond .ne 7, 3) := by decide +kernel
theorem dX8_whyNoAdd_8 : decode cX8_whyNoAdd 8 = .ok (.iconst 1, 1) := by decide +kernel
theorem dX8_whyNoAdd_9 : decode cX8_whyNoAdd 9 = .ok (.goto 4, 3) := by decide +kernel
theorem dX8_whyNoAdd_12 : decode cX8_whyNoAdd 12 = .ok (.iconst 0, 1) := by decide +kernel
theorem dX8_whyNoAdd_13 : decode cX8_whyNoAdd 13 = .ok (.invokevirtual 315, 3) := by decide +kernel
theorem dX8_whyNoAdd_16 : decode cX8_whyNoAdd 16 = .ok (.ifCond .eq 7, 3) := by decide +kernel
theorem dX8_whyNoAdd_19 : decode cX8_whyNoAdd 19 = .ok (.iconst 0, 1) := by decide +kernel
theorem dX8_whyNoAdd_20 : decode cX8_whyNoAdd 20 = .ok (.goto 8, 3) := by decide +kernel
theorem dX8_whyNoAdd_23 : decode cX8_whyNoAdd 23 = .ok (.aload_n 0, 1) := by decide +kernel
theorem dX8_whyNoAdd_24 : decode cX8_whyNoAdd 24 = .ok (.iload_n 1, 1) := by decide +kernel
theorem dX8_whyNoAdd_25 : decode cX8_whyNoAdd 25 = .ok (.invokevirtual 197, 3) := by decide +kernel
theorem dX8_whyNoAdd_28 : decode cX8_whyNoAdd 28 = .ok (.ireturn, 1) := by decide +kernel
theorem dX8_tries_0 : decode cX8_tries 0 = .ok (.aload_n 0, 1) := by decide +kernel
theorem dX8_tries_1 : decode cX8_tries 1 = .ok (.iload_n 1, 1) := by decide +kernel
theorem dX8_tries_2 : decode cX8_tries 2 = .ok (.invokevirtual 197, 3) := by decide +kernel
theorem dX8_tries_5 : decode cX8_tries 5 = .ok (.ifCond .eq 5, 3) := by decide +kernel
theorem dX8_tries_8 : decode cX8_tries 8 = .ok (.iconst (-1), 1) := by decide +kernel
theorem dX8_tries_9 : decode cX8_tries 9 = .ok (.ireturn, 1) := by decide +kernel
theorem dX8_tries_10 : decode cX8_tries 10 = .ok (.aload_n 0, 1) := by decide +kernel
theorem dX8_tries_11 : decode cX8_tries 11 = .ok (.aload_n 0, 1) := by decide +kernel
theorem dX8_tries_12 : decode cX8_tries 12 = .ok (.getfield 7, 3) := by decide +kernel
theorem dX8_tries_15 : decode cX8_tries 15 = .ok (.aload_n 0, 1) := by decide +kernel
theorem dX8_tries_16 : decode cX8_tries 16 = .ok (.getfield 16, 3) := by decide +kernel
theorem dX8_tries_19 : decode cX8_tries 19 = .ok (.invokevirtual 96, 3) := by decide +kernel
theorem dX8_tries_22 : decode cX8_tries 22 = .ok (.aload_n 0, 1) := by decide +kernel
theorem dX8_tries_23 : decode cX8_tries 23 = .ok (.getfield 7, 3) := by decide +kernel
theorem dX8_tries_26 : decode cX8_tries 26 = .ok (.iconst 4, 1) := by decide +kernel
theorem dX8_tries_27 : decode cX8_tries 27 = .ok (.iaload, 1) := by decide +kernel
theorem dX8_tries_28 : decode cX8_tries 28 = .ok (.istore_n 3, 1) := by decide +kernel
theorem dX8_tries_29 : decode cX8_tries 29 = .ok (.aload_n 0, 1) := by decide +kernel
theorem dX8_tries_30 : decode cX8_tries 30 = .ok (.iload_n 1, 1) := by decide +kernel
theorem dX8_tries_31 : decode cX8_tries 31 = .ok (.iconst 0, 1) := by decide +kernel
theorem dX8_tries_32 : decode cX8_tries 32 = .ok (.invokevirtual 132, 3) := by decide +kernel
theorem dX8_tries_35 : decode cX8_tries 35 = .ok (.istore 4, 2) := by decide +kernel
theorem dX8_tries_37 : decode cX8_tries 37 = .ok (.aload_n 0, 1) := by decide +kernel
theorem dX8_tries_38 : decode cX8_tries 38 = .ok (.getfield 7, 3) := by decide +kernel
theorem dX8_tries_41 : decode cX8_tries 41 = .ok (.iconst 0, 1) := by decide +kernel
theorem dX8_tries_42 : decode cX8_tries 42 = .ok (.iaload, 1) := by decide +kernel
theorem dX8_tries_43 : decode cX8_tries 43 = .ok (.aload_n 0, 1) := by decide +kernel
theorem dX8_tries_44 : decode cX8_tries 44 = .ok (.getfield 16, 3) := by decide +kernel
theorem dX8_tries_47 : decode cX8_tries 47 = .ok (.iconst 0, 1) := by decide +kernel
theorem dX8_tries_48 : decode cX8_tries 48 = .ok (.iaload, 1) := by decide +kernel
theorem dX8_tries_49 : decode cX8_tries 49 = .ok (.if_icmp .le 7, 3) := by decide +kernel
theorem dX8_tries_52 : decode cX8_tries 52 = .ok (.iconst 1, 1) := by decide +kernel
theorem dX8_tries_53 : decode cX8_tries 53 = .ok (.goto 4, 3) := by decide +kernel
theorem dX8_tries_56 : decode cX8_tries 56 = .ok (.iconst 0, 1) := by decide +kernel
theorem dX8_tries_57 : decode cX8_tries 57 = .ok (.istore 5, 2) := by decide +kernel
theorem dX8_tries_59 : decode cX8_tries 59 = .ok (.iload 5, 2) := by decide +kernel
theorem dX8_tries_61 : decode cX8_tries 61 = .ok (.ifCond .eq 7, 3) := by decide +kernel
theorem dX8_tries_64 : decode cX8_tries 64 = .ok (.iconst 0, 1) := by decide +kernel
theorem dX8_tries_65 : decode cX8_tries 65 = .ok (.goto 11, 3) := by decide +kernel
theorem dX8_tries_68 : decode cX8_tries 68 = .ok (.aload_n 0, 1) := by decide +kernel
theorem dX8_tries_69 : decode cX8_tries 69 = .ok (.getfield 7, 3) := by decide +kernel
theorem dX8_tries_72 : decode cX8_tries 72 = .ok (.iconst 4, 1) := by decide +kernel
theorem dX8_tries_73 : decode cX8_tries 73 = .ok (.iaload, 1) := by decide +kernel
theorem dX8_tries_74 : decode cX8_tries 74 = .ok (.iload_n 3, 1) := by decide +kernel
theorem dX8_tries_75 : decode cX8_tries 75 = .ok (.isub, 1) := by decide +kernel
theorem dX8_tries_76 : decode cX8_tries 76 = .ok (.istore_n 3, 1) := by decide +kernel
theorem dX8_tries_77 : decode cX8_tries 77 = .ok (.aload_n 0, 1) := by decide +kernel
theorem dX8_tries_78 : decode cX8_tries 78 = .ok (.getfield 7, 3) := by decide +kernel
theorem dX8_tries_81 : decode cX8_tries 81 = .ok (.iconst 0, 1) := by decide +kernel
theorem dX8_tries_82 : decode cX8_tries 82 = .ok (.iaload, 1) := by decide +kernel
theorem dX8_tries_83 : decode cX8_tries 83 = .ok (.istore 6, 2) := by decide +kernel
theorem dX8_tries_85 : decode cX8_tries 85 = .ok (.aload_n 0, 1) := by decide +kernel
theorem dX8_tries_86 : decode cX8_tries 86 = .ok (.aload_n 0, 1) := by decide +kernel
theorem dX8_tries_87 : decode cX8_tries 87 = .ok (.getfield 16, 3) := by decide +kernel
theorem dX8_tries_90 : decode cX8_tries 90 = .ok (.aload_n 0, 1) := by decide +kernel
theorem dX8_tries_91 : decode cX8_tries 91 = .ok (.getfield 7, 3) := by decide +kernel
theorem dX8_tries_94 : decode cX8_tries 94 = .ok (.invokevirtual 96, 3) := by decide +kernel
theorem dX8_tries_97 : decode cX8_tries 97 = .ok (.iload_n 2, 1) := by decide +kernel
theorem dX8_tries_98 : decode cX8_tries 98 = .ok (.ifCond .ne 8, 3) := by decide +kernel
theorem dX8_tries_101 : decode cX8_tries 101 = .ok (.iload 4, 2) := by decide +kernel
theorem dX8_tries_103 : decode cX8_tries 103 = .ok (.goto 14, 3) := by decide +kernel
theorem dX8_tries_106 : decode cX8_tries 106 = .ok (.iload_n 2, 1) := by decide +kernel
theorem dX8_tries_107 : decode cX8_tries 107 = .ok (.iconst 1, 1) := by decide +kernel
theorem dX8_tries_108 : decode cX8_tries 108 = .ok (.if_icmp .ne 7, 3) := by decide +kernel
theorem dX8_tries_111 : decode cX8_tries 111 = .ok (.iload_n 3, 1) := by decide +kernel
theorem dX8_tries_112 : decode cX8_tries 112 = .ok (.goto 5, 3) := by decide +kernel
theorem dX8_tries_115 : decode cX8_tries 115 = .ok (.iload 6, 2) := by decide +kernel
theorem dX8_tries_117 : decode cX8_tries 117 = .ok (.ireturn, 1) := by decide +kernel
theorem dX8_placeFor_0 : decode cX8_placeFor 0 = .ok (.aload_n 0, 1) := by decide +kernel
theorem dX8_placeFor_1 : decode cX8_placeFor 1 = .ok (.iload_n 1, 1) := by decide +kernel
theorem dX8_placeFor_2 : decode cX8_placeFor 2 = .ok (.invokestatic 327, 3) := by decide +kernel
theorem dX8_placeFor_5 : decode cX8_placeFor 5 = .ok (.ifCond .ne 7, 3) := by decide +kernel
theorem dX8_placeFor_8 : decode cX8_placeFor 8 = .ok (.iconst 1, 1) := by decide +kernel
theorem dX8_placeFor_9 : decode cX8_placeFor 9 = .ok (.goto 4, 3) := by decide +kernel
theorem dX8_placeFor_12 : decode cX8_placeFor 12 = .ok (.iconst 0, 1) := by decide +kernel
theorem dX8_placeFor_13 : decode cX8_placeFor 13 = .ok (.invokevirtual 315, 3) := by decide +kernel
theorem dX8_placeFor_16 : decode cX8_placeFor 16 = .ok (.ifCond .eq 7, 3) := by decide +kernel
theorem dX8_placeFor_19 : decode cX8_placeFor 19 = .ok (.iconst 0, 1) := by decide +kernel
theorem dX8_placeFor_20 : decode cX8_placeFor 20 = .ok (.goto 9, 3) := by decide +kernel
theorem dX8_placeFor_23 : decode cX8_placeFor 23 = .ok (.aload_n 0, 1) := by decide +kernel
theorem dX8_placeFor_24 : decode cX8_placeFor 24 = .ok (.iload_n 1, 1) := by decide +kernel
theorem dX8_placeFor_25 : decode cX8_placeFor 25 = .ok (.iconst 0, 1) := by decide +kernel
theorem dX8_placeFor_26 : decode cX8_placeFor 26 = .ok (.invokevirtual 361, 3) := by decide +kernel
theorem dX8_placeFor_29 : decode cX8_placeFor 29 = .ok (.ireturn, 1) := by decide +kernel
theorem dX8_movesFor_0 : decode cX8_movesFor 0 = .ok (.aload_n 0, 1) := by decide +kernel
theorem dX8_movesFor_1 : decode cX8_movesFor 1 = .ok (.iload_n 1, 1) := by decide +kernel
theorem dX8_movesFor_2 : decode cX8_movesFor 2 = .ok (.invokestatic 327, 3) := by decide +kernel
theorem dX8_movesFor_5 : decode cX8_movesFor 5 = .ok (.ifCond .ne 7, 3) := by decide +kernel
theorem dX8_movesFor_8 : decode cX8_movesFor 8 = .ok (.iconst 1, 1) := by decide +kernel
theorem dX8_movesFor_9 : decode cX8_movesFor 9 = .ok (.goto 4, 3) := by decide +kernel
theorem dX8_movesFor_12 : decode cX8_movesFor 12 = .ok (.iconst 0, 1) := by decide +kernel
theorem dX8_movesFor_13 : decode cX8_movesFor 13 = .ok (.invokevirtual 315, 3) := by decide +kernel
theorem dX8_movesFor_16 : decode cX8_movesFor 16 = .ok (.ifCond .eq 7, 3) := by decide +kernel
theorem dX8_movesFor_19 : decode cX8_movesFor 19 = .ok (.iconst 0, 1) := by decide +kernel
theorem dX8_movesFor_20 : decode cX8_movesFor 20 = .ok (.goto 9, 3) := by decide +kernel
theorem dX8_movesFor_23 : decode cX8_movesFor 23 = .ok (.aload_n 0, 1) := by decide +kernel
theorem dX8_movesFor_24 : decode cX8_movesFor 24 = .ok (.iload_n 1, 1) := by decide +kernel
theorem dX8_movesFor_25 : decode cX8_movesFor 25 = .ok (.iconst 1, 1) := by decide +kernel
theorem dX8_movesFor_26 : decode cX8_movesFor 26 = .ok (.invokevirtual 361, 3) := by decide +kernel
theorem dX8_movesFor_29 : decode cX8_movesFor 29 = .ok (.ireturn, 1) := by decide +kernel
theorem dX8_bucketsAfter_0 : decode cX8_bucketsAfter 0 = .ok (.aload_n 0, 1) := by decide +kernel
theorem dX8_bucketsAfter_1 : decode cX8_bucketsAfter 1 = .ok (.iload_n 1, 1) := by decide +kernel
theorem dX8_bucketsAfter_2 : decode cX8_bucketsAfter 2 = .ok (.invokestatic 327, 3) := by decide +kernel
theorem dX8_bucketsAfter_5 : decode cX8_bucketsAfter 5 = .ok (.ifCond .ne 7, 3) := by decide +kernel
theorem dX8_bucketsAfter_8 : decode cX8_bucketsAfter 8 = .ok (.iconst 1, 1) := by decide +kernel
theorem dX8_bucketsAfter_9 : decode cX8_bucketsAfter 9 = .ok (.goto 4, 3) := by decide +kernel
theorem dX8_bucketsAfter_12 : decode cX8_bucketsAfter 12 = .ok (.iconst 0, 1) := by decide +kernel
theorem dX8_bucketsAfter_13 : decode cX8_bucketsAfter 13 = .ok (.invokevirtual 315, 3) := by decide +kernel
theorem dX8_bucketsAfter_16 : decode cX8_bucketsAfter 16 = .ok (.ifCond .eq 7, 3) := by decide +kernel
theorem dX8_bucketsAfter_19 : decode cX8_bucketsAfter 19 = .ok (.iconst 0, 1) := by decide +kernel
theorem dX8_bucketsAfter_20 : decode cX8_bucketsAfter 20 = .ok (.goto 9, 3) := by decide +kernel
theorem dX8_bucketsAfter_23 : decode cX8_bucketsAfter 23 = .ok (.aload_n 0, 1) := by decide +kernel
theorem dX8_bucketsAfter_24 : decode cX8_bucketsAfter 24 = .ok (.iload_n 1, 1) := by decide +kernel
theorem dX8_bucketsAfter_25 : decode cX8_bucketsAfter 25 = .ok (.iconst 2, 1) := by decide +kernel
theorem dX8_bucketsAfter_26 : decode cX8_bucketsAfter 26 = .ok (.invokevirtual 361, 3) := by decide +kernel
theorem dX8_bucketsAfter_29 : decode cX8_bucketsAfter 29 = .ok (.ireturn, 1) := by decide +kernel
theorem dX8_pullsFor_0 : decode cX8_pullsFor 0 = .ok (.aload_n 0, 1) := by decide +kernel
theorem dX8_pullsFor_1 : decode cX8_pullsFor 1 = .ok (.iload_n 1, 1) := by decide +kernel
theorem dX8_pullsFor_2 : decode cX8_pullsFor 2 = .ok (.invokestatic 327, 3) := by decide +kernel
theorem dX8_pullsFor_5 : decode cX8_pullsFor 5 = .ok (.ifCond .ne 7, 3) := by decide +kernel
theorem dX8_pullsFor_8 : decode cX8_pullsFor 8 = .ok (.iconst 1, 1) := by decide +kernel
theorem dX8_pullsFor_9 : decode cX8_pullsFor 9 = .ok (.goto 4, 3) := by decide +kernel
theorem dX8_pullsFor_12 : decode cX8_pullsFor 12 = .ok (.iconst 0, 1) := by decide +kernel
theorem dX8_pullsFor_13 : decode cX8_pullsFor 13 = .ok (.invokevirtual 315, 3) := by decide +kernel
theorem dX8_pullsFor_16 : decode cX8_pullsFor 16 = .ok (.ifCond .eq 5, 3) := by decide +kernel
theorem dX8_pullsFor_19 : decode cX8_pullsFor 19 = .ok (.iconst 0, 1) := by decide +kernel
theorem dX8_pullsFor_20 : decode cX8_pullsFor 20 = .ok (.ireturn, 1) := by decide +kernel
theorem dX8_pullsFor_21 : decode cX8_pullsFor 21 = .ok (.aload_n 0, 1) := by decide +kernel
theorem dX8_pullsFor_22 : decode cX8_pullsFor 22 = .ok (.iload_n 1, 1) := by decide +kernel
theorem dX8_pullsFor_23 : decode cX8_pullsFor 23 = .ok (.invokevirtual 129, 3) := by decide +kernel
theorem dX8_pullsFor_26 : decode cX8_pullsFor 26 = .ok (.iconst (-1), 1) := by decide +kernel
theorem dX8_pullsFor_27 : decode cX8_pullsFor 27 = .ok (.if_icmp .ne 5, 3) := by decide +kernel
theorem dX8_pullsFor_30 : decode cX8_pullsFor 30 = .ok (.iconst (-1), 1) := by decide +kernel
theorem dX8_pullsFor_31 : decode cX8_pullsFor 31 = .ok (.ireturn, 1) := by decide +kernel
theorem dX8_pullsFor_32 : decode cX8_pullsFor 32 = .ok (.aload_n 0, 1) := by decide +kernel
theorem dX8_pullsFor_33 : decode cX8_pullsFor 33 = .ok (.aload_n 0, 1) := by decide +kernel
theorem dX8_pullsFor_34 : decode cX8_pullsFor 34 = .ok (.getfield 7, 3) := by decide +kernel
theorem dX8_pullsFor_37 : decode cX8_pullsFor 37 = .ok (.aload_n 0, 1) := by decide +kernel
theorem dX8_pullsFor_38 : decode cX8_pullsFor 38 = .ok (.getfield 16, 3) := by decide +kernel
theorem dX8_pullsFor_41 : decode cX8_pullsFor 41 = .ok (.invokevirtual 96, 3) := by decide +kernel
theorem dX8_pullsFor_44 : decode cX8_pullsFor 44 = .ok (.aload_n 0, 1) := by decide +kernel
theorem dX8_pullsFor_45 : decode cX8_pullsFor 45 = .ok (.getfield 7, 3) := by decide +kernel
theorem dX8_pullsFor_48 : decode cX8_pullsFor 48 = .ok (.iconst 5, 1) := by decide +kernel
theorem dX8_pullsFor_49 : decode cX8_pullsFor 49 = .ok (.iaload, 1) := by decide +kernel
theorem dX8_pullsFor_50 : decode cX8_pullsFor 50 = .ok (.istore_n 2, 1) := by decide +kernel
theorem dX8_pullsFor_51 : decode cX8_pullsFor 51 = .ok (.aload_n 0, 1) := by decide +kernel
theorem dX8_pullsFor_52 : decode cX8_pullsFor 52 = .ok (.iload_n 1, 1) := by decide +kernel
theorem dX8_pullsFor_53 : decode cX8_pullsFor 53 = .ok (.invokevirtual 215, 3) := by decide +kernel
theorem dX8_pullsFor_56 : decode cX8_pullsFor 56 = .ok (.pop, 1) := by decide +kernel
theorem dX8_pullsFor_57 : decode cX8_pullsFor 57 = .ok (.aload_n 0, 1) := by decide +kernel
theorem dX8_pullsFor_58 : decode cX8_pullsFor 58 = .ok (.getfield 7, 3) := by decide +kernel
theorem dX8_pullsFor_61 : decode cX8_pullsFor 61 = .ok (.iconst 5, 1) := by decide +kernel
theorem dX8_pullsFor_62 : decode cX8_pullsFor 62 = .ok (.iaload, 1) := by decide +kernel
theorem dX8_pullsFor_63 : decode cX8_pullsFor 63 = .ok (.iload_n 2, 1) := by decide +kernel
theorem dX8_pullsFor_64 : decode cX8_pullsFor 64 = .ok (.isub, 1) := by decide +kernel
theorem dX8_pullsFor_65 : decode cX8_pullsFor 65 = .ok (.istore_n 3, 1) := by decide +kernel
theorem dX8_pullsFor_66 : decode cX8_pullsFor 66 = .ok (.aload_n 0, 1) := by decide +kernel
theorem dX8_pullsFor_67 : decode cX8_pullsFor 67 = .ok (.aload_n 0, 1) := by decide +kernel
theorem dX8_pullsFor_68 : decode cX8_pullsFor 68 = .ok (.getfield 16, 3) := by decide +kernel
theorem dX8_pullsFor_71 : decode cX8_pullsFor 71 = .ok (.aload_n 0, 1) := by decide +kernel
theorem dX8_pullsFor_72 : decode cX8_pullsFor 72 = .ok (.getfield 7, 3) := by decide +kernel
theorem dX8_pullsFor_75 : decode cX8_pullsFor 75 = .ok (.invokevirtual 96, 3) := by decide +kernel
theorem dX8_pullsFor_78 : decode cX8_pullsFor 78 = .ok (.iload_n 3, 1) := by decide +kernel
theorem dX8_pullsFor_79 : decode cX8_pullsFor 79 = .ok (.ireturn, 1) := by decide +kernel
theorem dX8_bucketsWith_0 : decode cX8_bucketsWith 0 = .ok (.aload_n 0, 1) := by decide +kernel
theorem dX8_bucketsWith_1 : decode cX8_bucketsWith 1 = .ok (.iload_n 1, 1) := by decide +kernel
theorem dX8_bucketsWith_2 : decode cX8_bucketsWith 2 = .ok (.iconst 2, 1) := by decide +kernel
theorem dX8_bucketsWith_3 : decode cX8_bucketsWith 3 = .ok (.bipush 6, 2) := by decide +kernel
theorem dX8_bucketsWith_5 : decode cX8_bucketsWith 5 = .ok (.invokestatic 67, 3) := by decide +kernel
theorem dX8_bucketsWith_8 : decode cX8_bucketsWith 8 = .ok (.ifCond .ne 7, 3) := by decide +kernel
theorem dX8_bucketsWith_11 : decode cX8_bucketsWith 11 = .ok (.iconst 1, 1) := by decide +kernel
theorem dX8_bucketsWith_12 : decode cX8_bucketsWith 12 = .ok (.goto 4, 3) := by decide +kernel
theorem dX8_bucketsWith_15 : decode cX8_bucketsWith 15 = .ok (.iconst 0, 1) := by decide +kernel
theorem dX8_bucketsWith_16 : decode cX8_bucketsWith 16 = .ok (.invokevirtual 315, 3) := by decide +kernel
theorem dX8_bucketsWith_19 : decode cX8_bucketsWith 19 = .ok (.ifCond .eq 5, 3) := by decide +kernel
theorem dX8_bucketsWith_22 : decode cX8_bucketsWith 22 = .ok (.iconst 0, 1) := by decide +kernel
theorem dX8_bucketsWith_23 : decode cX8_bucketsWith 23 = .ok (.ireturn, 1) := by decide +kernel
theorem dX8_bucketsWith_24 : decode cX8_bucketsWith 24 = .ok (.aload_n 0, 1) := by decide +kernel
theorem dX8_bucketsWith_25 : decode cX8_bucketsWith 25 = .ok (.aload_n 0, 1) := by decide +kernel
theorem dX8_bucketsWith_26 : decode cX8_bucketsWith 26 = .ok (.getfield 7, 3) := by decide +kernel
theorem dX8_bucketsWith_29 : decode cX8_bucketsWith 29 = .ok (.aload_n 0, 1) := by decide +kernel
theorem dX8_bucketsWith_30 : decode cX8_bucketsWith 30 = .ok (.getfield 16, 3) := by decide +kernel
theorem dX8_bucketsWith_33 : decode cX8_bucketsWith 33 = .ok (.invokevirtual 96, 3) := by decide +kernel
theorem dX8_bucketsWith_36 : decode cX8_bucketsWith 36 = .ok (.aload_n 0, 1) := by decide +kernel
theorem dX8_bucketsWith_37 : decode cX8_bucketsWith 37 = .ok (.iconst 1, 1) := by decide +kernel
theorem dX8_bucketsWith_38 : decode cX8_bucketsWith 38 = .ok (.iload_n 1, 1) := by decide +kernel
theorem dX8_bucketsWith_39 : decode cX8_bucketsWith 39 = .ok (.invokevirtual 145, 3) := by decide +kernel
theorem dX8_bucketsWith_42 : decode cX8_bucketsWith 42 = .ok (.ifCond .eq 12, 3) := by decide +kernel
theorem dX8_bucketsWith_45 : decode cX8_bucketsWith 45 = .ok (.aload_n 0, 1) := by decide +kernel
theorem dX8_bucketsWith_46 : decode cX8_bucketsWith 46 = .ok (.getfield 7, 3) := by decide +kernel
theorem dX8_bucketsWith_49 : decode cX8_bucketsWith 49 = .ok (.iconst 0, 1) := by decide +kernel
theorem dX8_bucketsWith_50 : decode cX8_bucketsWith 50 = .ok (.iaload, 1) := by decide +kernel
theorem dX8_bucketsWith_51 : decode cX8_bucketsWith 51 = .ok (.goto 4, 3) := by decide +kernel
theorem dX8_bucketsWith_54 : decode cX8_bucketsWith 54 = .ok (.iconst (-1), 1) := by decide +kernel
theorem dX8_bucketsWith_55 : decode cX8_bucketsWith 55 = .ok (.istore_n 2, 1) := by decide +kernel
theorem dX8_bucketsWith_56 : decode cX8_bucketsWith 56 = .ok (.aload_n 0, 1) := by decide +kernel
theorem dX8_bucketsWith_57 : decode cX8_bucketsWith 57 = .ok (.aload_n 0, 1) := by decide +kernel
theorem dX8_bucketsWith_58 : decode cX8_bucketsWith 58 = .ok (.getfield 16, 3) := by decide +kernel
theorem dX8_bucketsWith_61 : decode cX8_bucketsWith 61 = .ok (.aload_n 0, 1) := by decide +kernel
theorem dX8_bucketsWith_62 : decode cX8_bucketsWith 62 = .ok (.getfield 7, 3) := by decide +kernel
theorem dX8_bucketsWith_65 : decode cX8_bucketsWith 65 = .ok (.invokevirtual 96, 3) := by decide +kernel
theorem dX8_bucketsWith_68 : decode cX8_bucketsWith 68 = .ok (.iload_n 2, 1) := by decide +kernel
theorem dX8_bucketsWith_69 : decode cX8_bucketsWith 69 = .ok (.ireturn, 1) := by decide +kernel
theorem dX8_sumWith_0 : decode cX8_sumWith 0 = .ok (.aload_n 0, 1) := by decide +kernel
theorem dX8_sumWith_1 : decode cX8_sumWith 1 = .ok (.aload_n 0, 1) := by decide +kernel
theorem dX8_sumWith_2 : decode cX8_sumWith 2 = .ok (.getfield 7, 3) := by decide +kernel
theorem dX8_sumWith_5 : decode cX8_sumWith 5 = .ok (.aload_n 0, 1) := by decide +kernel
theorem dX8_sumWith_6 : decode cX8_sumWith 6 = .ok (.getfield 16, 3) := by decide +kernel
theorem dX8_sumWith_9 : decode cX8_sumWith 9 = .ok (.invokevirtual 96, 3) := by decide +kernel
theorem dX8_sumWith_12 : decode cX8_sumWith 12 = .ok (.aload_n 0, 1) := by decide +kernel
theorem dX8_sumWith_13 : decode cX8_sumWith 13 = .ok (.iconst 2, 1) := by decide +kernel
theorem dX8_sumWith_14 : decode cX8_sumWith 14 = .ok (.iload_n 1, 1) := by decide +kernel
theorem dX8_sumWith_15 : decode cX8_sumWith 15 = .ok (.invokevirtual 145, 3) := by decide +kernel
theorem dX8_sumWith_18 : decode cX8_sumWith 18 = .ok (.ifCond .eq 22, 3) := by decide +kernel
theorem dX8_sumWith_21 : decode cX8_sumWith 21 = .ok (.aload_n 0, 1) := by decide +kernel
theorem dX8_sumWith_22 : decode cX8_sumWith 22 = .ok (.getfield 7, 3) := by decide +kernel
theorem dX8_sumWith_25 : decode cX8_sumWith 25 = .ok (.iconst 0, 1) := by decide +kernel
theorem dX8_sumWith_26 : decode cX8_sumWith 26 = .ok (.iaload, 1) := by decide +kernel
theorem dX8_sumWith_27 : decode cX8_sumWith 27 = .ok (.aload_n 0, 1) := by decide +kernel
theorem dX8_sumWith_28 : decode cX8_sumWith 28 = .ok (.getfield 16, 3) := by decide +kernel
theorem dX8_sumWith_31 : decode cX8_sumWith 31 = .ok (.iconst 0, 1) := by decide +kernel
theorem dX8_sumWith_32 : decode cX8_sumWith 32 = .ok (.iaload, 1) := by decide +kernel
theorem dX8_sumWith_33 : decode cX8_sumWith 33 = .ok (.if_icmp .ne 7, 3) := by decide +kernel
theorem dX8_sumWith_36 : decode cX8_sumWith 36 = .ok (.iconst 1, 1) := by decide +kernel
theorem dX8_sumWith_37 : decode cX8_sumWith 37 = .ok (.goto 4, 3) := by decide +kernel
theorem dX8_sumWith_40 : decode cX8_sumWith 40 = .ok (.iconst 0, 1) := by decide +kernel
theorem dX8_sumWith_41 : decode cX8_sumWith 41 = .ok (.istore_n 2, 1) := by decide +kernel
theorem dX8_sumWith_42 : decode cX8_sumWith 42 = .ok (.iload_n 2, 1) := by decide +kernel
theorem dX8_sumWith_43 : decode cX8_sumWith 43 = .ok (.ifCond .eq 10, 3) := by decide +kernel
theorem dX8_sumWith_46 : decode cX8_sumWith 46 = .ok (.aload_n 0, 1) := by decide +kernel
theorem dX8_sumWith_47 : decode cX8_sumWith 47 = .ok (.invokevirtual 358, 3) := by decide +kernel
theorem dX8_sumWith_50 : decode cX8_sumWith 50 = .ok (.goto 4, 3) := by decide +kernel
theorem dX8_sumWith_53 : decode cX8_sumWith 53 = .ok (.iconst (-1), 1) := by decide +kernel
theorem dX8_sumWith_54 : decode cX8_sumWith 54 = .ok (.istore_n 3, 1) := by decide +kernel
theorem dX8_sumWith_55 : decode cX8_sumWith 55 = .ok (.aload_n 0, 1) := by decide +kernel
theorem dX8_sumWith_56 : decode cX8_sumWith 56 = .ok (.aload_n 0, 1) := by decide +kernel
theorem dX8_sumWith_57 : decode cX8_sumWith 57 = .ok (.getfield 16, 3) := by decide +kernel
theorem dX8_sumWith_60 : decode cX8_sumWith 60 = .ok (.aload_n 0, 1) := by decide +kernel
theorem dX8_sumWith_61 : decode cX8_sumWith 61 = .ok (.getfield 7, 3) := by decide +kernel
theorem dX8_sumWith_64 : decode cX8_sumWith 64 = .ok (.invokevirtual 96, 3) := by decide +kernel
theorem dX8_sumWith_67 : decode cX8_sumWith 67 = .ok (.iload_n 3, 1) := by decide +kernel
theorem dX8_sumWith_68 : decode cX8_sumWith 68 = .ok (.ireturn, 1) := by decide +kernel
theorem dX8_bestMultiplier_0 : decode cX8_bestMultiplier 0 = .ok (.aload_n 0, 1) := by decide +kernel
theorem dX8_bestMultiplier_1 : decode cX8_bestMultiplier 1 = .ok (.iload_n 1, 1) := by decide +kernel
theorem dX8_bestMultiplier_2 : decode cX8_bestMultiplier 2 = .ok (.iconst 1, 1) := by decide +kernel
theorem dX8_bestMultiplier_3 : decode cX8_bestMultiplier 3 = .ok (.bipush 30, 2) := by decide +kernel
theorem dX8_bestMultiplier_5 : decode cX8_bestMultiplier 5 = .ok (.invokestatic 67, 3) := by decide +kernel
theorem dX8_bestMultiplier_8 : decode cX8_bestMultiplier 8 = .ok (.ifCond .ne 7, 3) := by decide +kernel
theorem dX8_bestMultiplier_11 : decode cX8_bestMultiplier 11 = .ok (.iconst 1, 1) := by decide +kernel
theorem dX8_bestMultiplier_12 : decode cX8_bestMultiplier 12 = .ok (.goto 4, 3) := by decide +kernel
theorem dX8_bestMultiplier_15 : decode cX8_bestMultiplier 15 = .ok (.iconst 0, 1) := by decide +kernel
theorem dX8_bestMultiplier_16 : decode cX8_bestMultiplier 16 = .ok (.invokevirtual 315, 3) := by decide +kernel
theorem dX8_bestMultiplier_19 : decode cX8_bestMultiplier 19 = .ok (.ifCond .eq 5, 3) := by decide +kernel
theorem dX8_bestMultiplier_22 : decode cX8_bestMultiplier 22 = .ok (.iconst 0, 1) := by decide +kernel
theorem dX8_bestMultiplier_23 : decode cX8_bestMultiplier 23 = .ok (.ireturn, 1) := by decide +kernel
theorem dX8_bestMultiplier_24 : decode cX8_bestMultiplier 24 = .ok (.iconst (-1), 1) := by decide +kernel
theorem dX8_bestMultiplier_25 : decode cX8_bestMultiplier 25 = .ok (.istore_n 2, 1) := by decide +kernel
theorem dX8_bestMultiplier_26 : decode cX8_bestMultiplier 26 = .ok (.iconst 0, 1) := by decide +kernel
theorem dX8_bestMultiplier_27 : decode cX8_bestMultiplier 27 = .ok (.istore_n 3, 1) := by decide +kernel
theorem dX8_bestMultiplier_28 : decode cX8_bestMultiplier 28 = .ok (.iconst 1, 1) := by decide +kernel
theorem dX8_bestMultiplier_29 : decode cX8_bestMultiplier 29 = .ok (.istore 4, 2) := by decide +kernel
theorem dX8_bestMultiplier_31 : decode cX8_bestMultiplier 31 = .ok (.iload 4, 2) := by decide +kernel
theorem dX8_bestMultiplier_33 : decode cX8_bestMultiplier 33 = .ok (.iload_n 1, 1) := by decide +kernel
theorem dX8_bestMultiplier_34 : decode cX8_bestMultiplier 34 = .ok (.if_icmp .gt 40, 3) := by decide +kernel
theorem dX8_bestMultiplier_37 : decode cX8_bestMultiplier 37 = .ok (.aload_n 0, 1) := by decide +kernel
theorem dX8_bestMultiplier_38 : decode cX8_bestMultiplier 38 = .ok (.iload 4, 2) := by decide +kernel
theorem dX8_bestMultiplier_40 : decode cX8_bestMultiplier 40 = .ok (.invokevirtual 364, 3) := by decide +kernel
theorem dX8_bestMultiplier_43 : decode cX8_bestMultiplier 43 = .ok (.istore 5, 2) := by decide +kernel
theorem dX8_bestMultiplier_45 : decode cX8_bestMultiplier 45 = .ok (.iload 5, 2) := by decide +kernel
theorem dX8_bestMultiplier_47 : decode cX8_bestMultiplier 47 = .ok (.iconst (-1), 1) := by decide +kernel
theorem dX8_bestMultiplier_48 : decode cX8_bestMultiplier 48 = .ok (.if_icmp .eq 20, 3) := by decide +kernel
theorem dX8_bestMultiplier_51 : decode cX8_bestMultiplier 51 = .ok (.iload_n 2, 1) := by decide +kernel
theorem dX8_bestMultiplier_52 : decode cX8_bestMultiplier 52 = .ok (.iconst (-1), 1) := by decide +kernel
theorem dX8_bestMultiplier_53 : decode cX8_bestMultiplier 53 = .ok (.if_icmp .eq 9, 3) := by decide +kernel
theorem dX8_bestMultiplier_56 : decode cX8_bestMultiplier 56 = .ok (.iload 5, 2) := by decide +kernel
theorem dX8_bestMultiplier_58 : decode cX8_bestMultiplier 58 = .ok (.iload_n 3, 1) := by decide +kernel
theorem dX8_bestMultiplier_59 : decode cX8_bestMultiplier 59 = .ok (.if_icmp .ge 9, 3) := by decide +kernel
theorem dX8_bestMultiplier_62 : decode cX8_bestMultiplier 62 = .ok (.iload 4, 2) := by decide +kernel
theorem dX8_bestMultiplier_64 : decode cX8_bestMultiplier 64 = .ok (.istore_n 2, 1) := by decide +kernel
theorem dX8_bestMultiplier_65 : decode cX8_bestMultiplier 65 = .ok (.iload 5, 2) := by decide +kernel
theorem dX8_bestMultiplier_67 : decode cX8_bestMultiplier 67 = .ok (.istore_n 3, 1) := by decide +kernel
theorem dX8_bestMultiplier_68 : decode cX8_bestMultiplier 68 = .ok (.iinc 4 1, 3) := by decide +kernel
theorem dX8_bestMultiplier_71 : decode cX8_bestMultiplier 71 = .ok (.goto (-40), 3) := by decide +kernel
theorem dX8_bestMultiplier_74 : decode cX8_bestMultiplier 74 = .ok (.iload_n 2, 1) := by decide +kernel
theorem dX8_bestMultiplier_75 : decode cX8_bestMultiplier 75 = .ok (.ireturn, 1) := by decide +kernel
theorem dX8_moves__0 : decode cX8_moves_ 0 = .ok (.aload_n 0, 1) := by decide +kernel
theorem dX8_moves__1 : decode cX8_moves_ 1 = .ok (.iconst 4, 1) := by decide +kernel
theorem dX8_moves__2 : decode cX8_moves_ 2 = .ok (.invokevirtual 343, 3) := by decide +kernel
theorem dX8_moves__5 : decode cX8_moves_ 5 = .ok (.ireturn, 1) := by decide +kernel
theorem dX8_pulls_0 : decode cX8_pulls 0 = .ok (.aload_n 0, 1) := by decide +kernel
theorem dX8_pulls_1 : decode cX8_pulls 1 = .ok (.iconst 5, 1) := by decide +kernel
theorem dX8_pulls_2 : decode cX8_pulls 2 = .ok (.invokevirtual 343, 3) := by decide +kernel
theorem dX8_pulls_5 : decode cX8_pulls 5 = .ok (.ireturn, 1) := by decide +kernel
theorem dX8_growths_0 : decode cX8_growths 0 = .ok (.aload_n 0, 1) := by decide +kernel
theorem dX8_growths_1 : decode cX8_growths 1 = .ok (.bipush 6, 2) := by decide +kernel
theorem dX8_growths_3 : decode cX8_growths 3 = .ok (.invokevirtual 343, 3) := by decide +kernel
theorem dX8_growths_6 : decode cX8_growths 6 = .ok (.ireturn, 1) := by decide +kernel
theorem dX8_addedCount_0 : decode cX8_addedCount 0 = .ok (.aload_n 0, 1) := by decide +kernel
theorem dX8_addedCount_1 : decode cX8_addedCount 1 = .ok (.bipush 7, 2) := by decide +kernel
theorem dX8_addedCount_3 : decode cX8_addedCount 3 = .ok (.invokevirtual 343, 3) := by decide +kernel
theorem dX8_addedCount_6 : decode cX8_addedCount 6 = .ok (.ireturn, 1) := by decide +kernel
theorem dX8_removedCount_0 : decode cX8_removedCount 0 = .ok (.aload_n 0, 1) := by decide +kernel
theorem dX8_removedCount_1 : decode cX8_removedCount 1 = .ok (.bipush 8, 2) := by decide +kernel
theorem dX8_removedCount_3 : decode cX8_removedCount 3 = .ok (.invokevirtual 343, 3) := by decide +kernel
theorem dX8_removedCount_6 : decode cX8_removedCount 6 = .ok (.ireturn, 1) := by decide +kernel
theorem dX8_meanDistance_0 : decode cX8_meanDistance 0 = .ok (.aload_n 0, 1) := by decide +kernel
theorem dX8_meanDistance_1 : decode cX8_meanDistance 1 = .ok (.iconst 0, 1) := by decide +kernel
theorem dX8_meanDistance_2 : decode cX8_meanDistance 2 = .ok (.putfield 64, 3) := by decide +kernel
theorem dX8_meanDistance_5 : decode cX8_meanDistance 5 = .ok (.aload_n 0, 1) := by decide +kernel
theorem dX8_meanDistance_6 : decode cX8_meanDistance 6 = .ok (.invokevirtual 148, 3) := by decide +kernel
theorem dX8_meanDistance_9 : decode cX8_meanDistance 9 = .ok (.istore_n 1, 1) := by decide +kernel
theorem dX8_meanDistance_10 : decode cX8_meanDistance 10 = .ok (.iload_n 1, 1) := by decide +kernel
theorem dX8_meanDistance_11 : decode cX8_meanDistance 11 = .ok (.ifCond .ne 7, 3) := by decide +kernel
theorem dX8_meanDistance_14 : decode cX8_meanDistance 14 = .ok (.dconst 0, 1) := by decide +kernel
theorem dX8_meanDistance_15 : decode cX8_meanDistance 15 = .ok (.goto 11, 3) := by decide +kernel
theorem dX8_meanDistance_18 : decode cX8_meanDistance 18 = .ok (.aload_n 0, 1) := by decide +kernel
theorem dX8_meanDistance_19 : decode cX8_meanDistance 19 = .ok (.invokevirtual 358, 3) := by decide +kernel
theorem dX8_meanDistance_22 : decode cX8_meanDistance 22 = .ok (.i2d, 1) := by decide +kernel
theorem dX8_meanDistance_23 : decode cX8_meanDistance 23 = .ok (.iload_n 1, 1) := by decide +kernel
theorem dX8_meanDistance_24 : decode cX8_meanDistance 24 = .ok (.i2d, 1) := by decide +kernel
theorem dX8_meanDistance_25 : decode cX8_meanDistance 25 = .ok (.ddiv, 1) := by decide +kernel
theorem dX8_meanDistance_26 : decode cX8_meanDistance 26 = .ok (.dreturn, 1) := by decide +kernel
theorem dX8_load_0 : decode cX8_load 0 = .ok (.aload_n 0, 1) := by decide +kernel
theorem dX8_load_1 : decode cX8_load 1 = .ok (.iconst 0, 1) := by decide +kernel
theorem dX8_load_2 : decode cX8_load 2 = .ok (.putfield 64, 3) := by decide +kernel
theorem dX8_load_5 : decode cX8_load 5 = .ok (.aload_n 0, 1) := by decide +kernel
theorem dX8_load_6 : decode cX8_load 6 = .ok (.invokevirtual 148, 3) := by decide +kernel
theorem dX8_load_9 : decode cX8_load 9 = .ok (.i2f, 1) := by decide +kernel
theorem dX8_load_10 : decode cX8_load 10 = .ok (.aload_n 0, 1) := by decide +kernel
theorem dX8_load_11 : decode cX8_load 11 = .ok (.getfield 7, 3) := by decide +kernel
theorem dX8_load_14 : decode cX8_load 14 = .ok (.iconst 0, 1) := by decide +kernel
theorem dX8_load_15 : decode cX8_load 15 = .ok (.iaload, 1) := by decide +kernel
theorem dX8_load_16 : decode cX8_load 16 = .ok (.i2f, 1) := by decide +kernel
theorem dX8_load_17 : decode cX8_load 17 = .ok (.fdiv, 1) := by decide +kernel
theorem dX8_load_18 : decode cX8_load 18 = .ok (.freturn, 1) := by decide +kernel
theorem dX8_doublesOf_0 : decode cX8_doublesOf 0 = .ok (.iconst 0, 1) := by decide +kernel
theorem dX8_doublesOf_1 : decode cX8_doublesOf 1 = .ok (.istore_n 2, 1) := by decide +kernel
theorem dX8_doublesOf_2 : decode cX8_doublesOf 2 = .ok (.iconst 0, 1) := by decide +kernel
theorem dX8_doublesOf_3 : decode cX8_doublesOf 3 = .ok (.istore_n 3, 1) := by decide +kernel
theorem dX8_doublesOf_4 : decode cX8_doublesOf 4 = .ok (.iload_n 3, 1) := by decide +kernel
theorem dX8_doublesOf_5 : decode cX8_doublesOf 5 = .ok (.iload_n 1, 1) := by decide +kernel
theorem dX8_doublesOf_6 : decode cX8_doublesOf 6 = .ok (.if_icmp .ge 38, 3) := by decide +kernel
theorem dX8_doublesOf_9 : decode cX8_doublesOf 9 = .ok (.iload_n 2, 1) := by decide +kernel
theorem dX8_doublesOf_10 : decode cX8_doublesOf 10 = .ok (.aload_n 0, 1) := by decide +kernel
theorem dX8_doublesOf_11 : decode cX8_doublesOf 11 = .ok (.iload_n 1, 1) := by decide +kernel
theorem dX8_doublesOf_12 : decode cX8_doublesOf 12 = .ok (.invokevirtual 82, 3) := by decide +kernel
theorem dX8_doublesOf_15 : decode cX8_doublesOf 15 = .ok (.ifCond .ne 20, 3) := by decide +kernel
theorem dX8_doublesOf_18 : decode cX8_doublesOf 18 = .ok (.aload_n 0, 1) := by decide +kernel
theorem dX8_doublesOf_19 : decode cX8_doublesOf 19 = .ok (.iload_n 3, 1) := by decide +kernel
theorem dX8_doublesOf_20 : decode cX8_doublesOf 20 = .ok (.invokevirtual 71, 3) := by decide +kernel
theorem dX8_doublesOf_23 : decode cX8_doublesOf 23 = .ok (.aload_n 0, 1) := by decide +kernel
theorem dX8_doublesOf_24 : decode cX8_doublesOf 24 = .ok (.iload_n 1, 1) := by decide +kernel
theorem dX8_doublesOf_25 : decode cX8_doublesOf 25 = .ok (.invokevirtual 71, 3) := by decide +kernel
theorem dX8_doublesOf_28 : decode cX8_doublesOf 28 = .ok (.if_icmp .ne 7, 3) := by decide +kernel
theorem dX8_doublesOf_31 : decode cX8_doublesOf 31 = .ok (.iconst 1, 1) := by decide +kernel
theorem dX8_doublesOf_32 : decode cX8_doublesOf 32 = .ok (.goto 4, 3) := by decide +kernel
theorem dX8_doublesOf_35 : decode cX8_doublesOf 35 = .ok (.iconst 0, 1) := by decide +kernel
theorem dX8_doublesOf_36 : decode cX8_doublesOf 36 = .ok (.iadd, 1) := by decide +kernel
theorem dX8_doublesOf_37 : decode cX8_doublesOf 37 = .ok (.istore_n 2, 1) := by decide +kernel
theorem dX8_doublesOf_38 : decode cX8_doublesOf 38 = .ok (.iinc 3 1, 3) := by decide +kernel
theorem dX8_doublesOf_41 : decode cX8_doublesOf 41 = .ok (.goto (-37), 3) := by decide +kernel
theorem dX8_doublesOf_44 : decode cX8_doublesOf 44 = .ok (.iload_n 2, 1) := by decide +kernel
theorem dX8_doublesOf_45 : decode cX8_doublesOf 45 = .ok (.ireturn, 1) := by decide +kernel
theorem dX8_violations_0 : decode cX8_violations 0 = .ok (.aload_n 0, 1) := by decide +kernel
theorem dX8_violations_1 : decode cX8_violations 1 = .ok (.iconst 0, 1) := by decide +kernel
theorem dX8_violations_2 : decode cX8_violations 2 = .ok (.putfield 64, 3) := by decide +kernel
theorem dX8_violations_5 : decode cX8_violations 5 = .ok (.aload_n 0, 1) := by decide +kernel
theorem dX8_violations_6 : decode cX8_violations 6 = .ok (.getfield 7, 3) := by decide +kernel
theorem dX8_violations_9 : decode cX8_violations 9 = .ok (.bipush 7, 2) := by decide +kernel
theorem dX8_violations_11 : decode cX8_violations 11 = .ok (.iaload, 1) := by decide +kernel
theorem dX8_violations_12 : decode cX8_violations 12 = .ok (.aload_n 0, 1) := by decide +kernel
theorem dX8_violations_13 : decode cX8_violations 13 = .ok (.getfield 7, 3) := by decide +kernel
theorem dX8_violations_16 : decode cX8_violations 16 = .ok (.bipush 8, 2) := by decide +kernel
theorem dX8_violations_18 : decode cX8_violations 18 = .ok (.iaload, 1) := by decide +kernel
theorem dX8_violations_19 : decode cX8_violations 19 = .ok (.isub, 1) := by decide +kernel
theorem dX8_violations_20 : decode cX8_violations 20 = .ok (.aload_n 0, 1) := by decide +kernel
theorem dX8_violations_21 : decode cX8_violations 21 = .ok (.invokevirtual 148, 3) := by decide +kernel
theorem dX8_violations_24 : decode cX8_violations 24 = .ok (.isub, 1) := by decide +kernel
theorem dX8_violations_25 : decode cX8_violations 25 = .ok (.istore_n 1, 1) := by decide +kernel
theorem dX8_violations_26 : decode cX8_violations 26 = .ok (.iload_n 1, 1) := by decide +kernel
theorem dX8_violations_27 : decode cX8_violations 27 = .ok (.ifCond .ge 8, 3) := by decide +kernel
theorem dX8_violations_30 : decode cX8_violations 30 = .ok (.iload_n 1, 1) := by decide +kernel
theorem dX8_violations_31 : decode cX8_violations 31 = .ok (.ineg, 1) := by decide +kernel
theorem dX8_violations_32 : decode cX8_violations 32 = .ok (.goto 4, 3) := by decide +kernel
theorem dX8_violations_35 : decode cX8_violations 35 = .ok (.iload_n 1, 1) := by decide +kernel
theorem dX8_violations_36 : decode cX8_violations 36 = .ok (.istore_n 2, 1) := by decide +kernel
theorem dX8_violations_37 : decode cX8_violations 37 = .ok (.iconst 0, 1) := by decide +kernel
theorem dX8_violations_38 : decode cX8_violations 38 = .ok (.istore_n 3, 1) := by decide +kernel
theorem dX8_violations_39 : decode cX8_violations 39 = .ok (.iload_n 3, 1) := by decide +kernel
theorem dX8_violations_40 : decode cX8_violations 40 = .ok (.aload_n 0, 1) := by decide +kernel
theorem dX8_violations_41 : decode cX8_violations 41 = .ok (.getfield 7, 3) := by decide +kernel
theorem dX8_violations_44 : decode cX8_violations 44 = .ok (.iconst 0, 1) := by decide +kernel
theorem dX8_violations_45 : decode cX8_violations 45 = .ok (.iaload, 1) := by decide +kernel
theorem dX8_violations_46 : decode cX8_violations 46 = .ok (.if_icmp .ge 47, 3) := by decide +kernel
theorem dX8_violations_49 : decode cX8_violations 49 = .ok (.iload_n 2, 1) := by decide +kernel
theorem dX8_violations_50 : decode cX8_violations 50 = .ok (.aload_n 0, 1) := by decide +kernel
theorem dX8_violations_51 : decode cX8_violations 51 = .ok (.iload_n 3, 1) := by decide +kernel
theorem dX8_violations_52 : decode cX8_violations 52 = .ok (.invokevirtual 82, 3) := by decide +kernel
theorem dX8_violations_55 : decode cX8_violations 55 = .ok (.ifCond .ne 17, 3) := by decide +kernel
theorem dX8_violations_58 : decode cX8_violations 58 = .ok (.aload_n 0, 1) := by decide +kernel
theorem dX8_violations_59 : decode cX8_violations 59 = .ok (.iload_n 3, 1) := by decide +kernel
theorem dX8_violations_60 : decode cX8_violations 60 = .ok (.invokevirtual 93, 3) := by decide +kernel
theorem dX8_violations_63 : decode cX8_violations 63 = .ok (.aload_n 0, 1) := by decide +kernel
theorem dX8_violations_64 : decode cX8_violations 64 = .ok (.getfield 7, 3) := by decide +kernel
theorem dX8_violations_67 : decode cX8_violations 67 = .ok (.iconst 1, 1) := by decide +kernel
theorem dX8_violations_68 : decode cX8_violations 68 = .ok (.iaload, 1) := by decide +kernel
theorem dX8_violations_69 : decode cX8_violations 69 = .ok (.if_icmp .ge 7, 3) := by decide +kernel
theorem dX8_violations_72 : decode cX8_violations 72 = .ok (.iconst 0, 1) := by decide +kernel
theorem dX8_violations_73 : decode cX8_violations 73 = .ok (.goto 4, 3) := by decide +kernel
theorem dX8_violations_76 : decode cX8_violations 76 = .ok (.iconst 1, 1) := by decide +kernel
theorem dX8_violations_77 : decode cX8_violations 77 = .ok (.iadd, 1) := by decide +kernel
theorem dX8_violations_78 : decode cX8_violations 78 = .ok (.istore_n 2, 1) := by decide +kernel
theorem dX8_violations_79 : decode cX8_violations 79 = .ok (.iload_n 2, 1) := by decide +kernel
theorem dX8_violations_80 : decode cX8_violations 80 = .ok (.aload_n 0, 1) := by decide +kernel
theorem dX8_violations_81 : decode cX8_violations 81 = .ok (.iload_n 3, 1) := by decide +kernel
theorem dX8_violations_82 : decode cX8_violations 82 = .ok (.invokevirtual 367, 3) := by decide +kernel
theorem dX8_violations_85 : decode cX8_violations 85 = .ok (.iadd, 1) := by decide +kernel
theorem dX8_violations_86 : decode cX8_violations 86 = .ok (.istore_n 2, 1) := by decide +kernel
theorem dX8_violations_87 : decode cX8_violations 87 = .ok (.iinc 3 1, 3) := by decide +kernel
theorem dX8_violations_90 : decode cX8_violations 90 = .ok (.goto (-51), 3) := by decide +kernel
theorem dX8_violations_93 : decode cX8_violations 93 = .ok (.iload_n 2, 1) := by decide +kernel
theorem dX8_violations_94 : decode cX8_violations 94 = .ok (.ireturn, 1) := by decide +kernel
theorem dX8_write_0 : decode cX8_write 0 = .ok (.aload_n 0, 1) := by decide +kernel
theorem dX8_write_1 : decode cX8_write 1 = .ok (.getfield 47, 3) := by decide +kernel
theorem dX8_write_4 : decode cX8_write 4 = .ok (.aload_n 0, 1) := by decide +kernel
theorem dX8_write_5 : decode cX8_write 5 = .ok (.getfield 370, 3) := by decide +kernel
theorem dX8_write_8 : decode cX8_write 8 = .ok (.iload_n 1, 1) := by decide +kernel
theorem dX8_write_9 : decode cX8_write 9 = .ok (.i2c, 1) := by decide +kernel
theorem dX8_write_10 : decode cX8_write 10 = .ok (.castore, 1) := by decide +kernel
theorem dX8_write_11 : decode cX8_write 11 = .ok (.aload_n 0, 1) := by decide +kernel
theorem dX8_write_12 : decode cX8_write 12 = .ok (.dup, 1) := by decide +kernel
theorem dX8_write_13 : decode cX8_write 13 = .ok (.getfield 370, 3) := by decide +kernel
theorem dX8_write_16 : decode cX8_write 16 = .ok (.iconst 1, 1) := by decide +kernel
theorem dX8_write_17 : decode cX8_write 17 = .ok (.iadd, 1) := by decide +kernel
theorem dX8_write_18 : decode cX8_write 18 = .ok (.putfield 370, 3) := by decide +kernel
theorem dX8_write_21 : decode cX8_write 21 = .ok (.return_, 1) := by decide +kernel
theorem dX8_writeNumber_0 : decode cX8_writeNumber 0 = .ok (.iload_n 1, 1) := by decide +kernel
theorem dX8_writeNumber_1 : decode cX8_writeNumber 1 = .ok (.bipush 9, 2) := by decide +kernel
theorem dX8_writeNumber_3 : decode cX8_writeNumber 3 = .ok (.if_icmp .le 11, 3) := by decide +kernel
theorem dX8_writeNumber_6 : decode cX8_writeNumber 6 = .ok (.aload_n 0, 1) := by decide +kernel
theorem dX8_writeNumber_7 : decode cX8_writeNumber 7 = .ok (.iload_n 1, 1) := by decide +kernel
theorem dX8_writeNumber_8 : decode cX8_writeNumber 8 = .ok (.bipush 10, 2) := by decide +kernel
theorem dX8_writeNumber_10 : decode cX8_writeNumber 10 = .ok (.idiv, 1) := by decide +kernel
theorem dX8_writeNumber_11 : decode cX8_writeNumber 11 = .ok (.invokevirtual 373, 3) := by decide +kernel
theorem dX8_writeNumber_14 : decode cX8_writeNumber 14 = .ok (.aload_n 0, 1) := by decide +kernel
theorem dX8_writeNumber_15 : decode cX8_writeNumber 15 = .ok (.bipush 48, 2) := by decide +kernel
theorem dX8_writeNumber_17 : decode cX8_writeNumber 17 = .ok (.iload_n 1, 1) := by decide +kernel
theorem dX8_writeNumber_18 : decode cX8_writeNumber 18 = .ok (.bipush 10, 2) := by decide +kernel
theorem dX8_writeNumber_20 : decode cX8_writeNumber 20 = .ok (.irem, 1) := by decide +kernel
theorem dX8_writeNumber_21 : decode cX8_writeNumber 21 = .ok (.iadd, 1) := by decide +kernel
theorem dX8_writeNumber_22 : decode cX8_writeNumber 22 = .ok (.invokevirtual 376, 3) := by decide +kernel
theorem dX8_writeNumber_25 : decode cX8_writeNumber 25 = .ok (.return_, 1) := by decide +kernel
theorem dX8_writeBucket_0 : decode cX8_writeBucket 0 = .ok (.aload_n 0, 1) := by decide +kernel
theorem dX8_writeBucket_1 : decode cX8_writeBucket 1 = .ok (.iload_n 1, 1) := by decide +kernel
theorem dX8_writeBucket_2 : decode cX8_writeBucket 2 = .ok (.invokevirtual 82, 3) := by decide +kernel
theorem dX8_writeBucket_5 : decode cX8_writeBucket 5 = .ok (.ifCond .eq 10, 3) := by decide +kernel
theorem dX8_writeBucket_8 : decode cX8_writeBucket 8 = .ok (.aload_n 0, 1) := by decide +kernel
theorem dX8_writeBucket_9 : decode cX8_writeBucket 9 = .ok (.bipush 46, 2) := by decide +kernel
theorem dX8_writeBucket_11 : decode cX8_writeBucket 11 = .ok (.invokevirtual 376, 3) := by decide +kernel
theorem dX8_writeBucket_14 : decode cX8_writeBucket 14 = .ok (.return_, 1) := by decide +kernel
theorem dX8_writeBucket_15 : decode cX8_writeBucket 15 = .ok (.aload_n 0, 1) := by decide +kernel
theorem dX8_writeBucket_16 : decode cX8_writeBucket 16 = .ok (.aload_n 0, 1) := by decide +kernel
theorem dX8_writeBucket_17 : decode cX8_writeBucket 17 = .ok (.iload_n 1, 1) := by decide +kernel
theorem dX8_writeBucket_18 : decode cX8_writeBucket 18 = .ok (.invokevirtual 71, 3) := by decide +kernel
theorem dX8_writeBucket_21 : decode cX8_writeBucket 21 = .ok (.invokevirtual 373, 3) := by decide +kernel
theorem dX8_writeBucket_24 : decode cX8_writeBucket 24 = .ok (.aload_n 0, 1) := by decide +kernel
theorem dX8_writeBucket_25 : decode cX8_writeBucket 25 = .ok (.iload_n 1, 1) := by decide +kernel
theorem dX8_writeBucket_26 : decode cX8_writeBucket 26 = .ok (.invokevirtual 93, 3) := by decide +kernel
theorem dX8_writeBucket_29 : decode cX8_writeBucket 29 = .ok (.ifCond .le 18, 3) := by decide +kernel
theorem dX8_writeBucket_32 : decode cX8_writeBucket 32 = .ok (.aload_n 0, 1) := by decide +kernel
theorem dX8_writeBucket_33 : decode cX8_writeBucket 33 = .ok (.bipush 43, 2) := by decide +kernel
theorem dX8_writeBucket_35 : decode cX8_writeBucket 35 = .ok (.invokevirtual 376, 3) := by decide +kernel
theorem dX8_writeBucket_38 : decode cX8_writeBucket 38 = .ok (.aload_n 0, 1) := by decide +kernel
theorem dX8_writeBucket_39 : decode cX8_writeBucket 39 = .ok (.aload_n 0, 1) := by decide +kernel
theorem dX8_writeBucket_40 : decode cX8_writeBucket 40 = .ok (.iload_n 1, 1) := by decide +kernel
theorem dX8_writeBucket_41 : decode cX8_writeBucket 41 = .ok (.invokevirtual 93, 3) := by decide +kernel
theorem dX8_writeBucket_44 : decode cX8_writeBucket 44 = .ok (.invokevirtual 373, 3) := by decide +kernel
theorem dX8_writeBucket_47 : decode cX8_writeBucket 47 = .ok (.return_, 1) := by decide +kernel
theorem dX8_writeTable_0 : decode cX8_writeTable 0 = .ok (.aload_n 0, 1) := by decide +kernel
theorem dX8_writeTable_1 : decode cX8_writeTable 1 = .ok (.iconst 0, 1) := by decide +kernel
theorem dX8_writeTable_2 : decode cX8_writeTable 2 = .ok (.putfield 64, 3) := by decide +kernel
theorem dX8_writeTable_5 : decode cX8_writeTable 5 = .ok (.aload_n 0, 1) := by decide +kernel
theorem dX8_writeTable_6 : decode cX8_writeTable 6 = .ok (.iconst 0, 1) := by decide +kernel
theorem dX8_writeTable_7 : decode cX8_writeTable 7 = .ok (.putfield 370, 3) := by decide +kernel
theorem dX8_writeTable_10 : decode cX8_writeTable 10 = .ok (.iconst 0, 1) := by decide +kernel
theorem dX8_writeTable_11 : decode cX8_writeTable 11 = .ok (.istore_n 1, 1) := by decide +kernel
theorem dX8_writeTable_12 : decode cX8_writeTable 12 = .ok (.iload_n 1, 1) := by decide +kernel
theorem dX8_writeTable_13 : decode cX8_writeTable 13 = .ok (.aload_n 0, 1) := by decide +kernel
theorem dX8_writeTable_14 : decode cX8_writeTable 14 = .ok (.getfield 7, 3) := by decide +kernel
theorem dX8_writeTable_17 : decode cX8_writeTable 17 = .ok (.iconst 0, 1) := by decide +kernel
theorem dX8_writeTable_18 : decode cX8_writeTable 18 = .ok (.iaload, 1) := by decide +kernel
theorem dX8_writeTable_19 : decode cX8_writeTable 19 = .ok (.if_icmp .ge 24, 3) := by decide +kernel
theorem dX8_writeTable_22 : decode cX8_writeTable 22 = .ok (.iload_n 1, 1) := by decide +kernel
theorem dX8_writeTable_23 : decode cX8_writeTable 23 = .ok (.ifCond .le 9, 3) := by decide +kernel
theorem dX8_writeTable_26 : decode cX8_writeTable 26 = .ok (.aload_n 0, 1) := by decide +kernel
theorem dX8_writeTable_27 : decode cX8_writeTable 27 = .ok (.bipush 32, 2) := by decide +kernel
theorem dX8_writeTable_29 : decode cX8_writeTable 29 = .ok (.invokevirtual 376, 3) := by decide +kernel
theorem dX8_writeTable_32 : decode cX8_writeTable 32 = .ok (.aload_n 0, 1) := by decide +kernel
theorem dX8_writeTable_33 : decode cX8_writeTable 33 = .ok (.iload_n 1, 1) := by decide +kernel
theorem dX8_writeTable_34 : decode cX8_writeTable 34 = .ok (.invokevirtual 379, 3) := by decide +kernel
theorem dX8_writeTable_37 : decode cX8_writeTable 37 = .ok (.iinc 1 1, 3) := by decide +kernel
theorem dX8_writeTable_40 : decode cX8_writeTable 40 = .ok (.goto (-28), 3) := by decide +kernel
theorem dX8_writeTable_43 : decode cX8_writeTable 43 = .ok (.aload_n 0, 1) := by decide +kernel
theorem dX8_writeTable_44 : decode cX8_writeTable 44 = .ok (.getfield 370, 3) := by decide +kernel
theorem dX8_writeTable_47 : decode cX8_writeTable 47 = .ok (.ireturn, 1) := by decide +kernel
theorem dX8_reportByte_0 : decode cX8_reportByte 0 = .ok (.aload_n 0, 1) := by decide +kernel
theorem dX8_reportByte_1 : decode cX8_reportByte 1 = .ok (.iconst 0, 1) := by decide +kernel
theorem dX8_reportByte_2 : decode cX8_reportByte 2 = .ok (.putfield 64, 3) := by decide +kernel
theorem dX8_reportByte_5 : decode cX8_reportByte 5 = .ok (.iload_n 1, 1) := by decide +kernel
theorem dX8_reportByte_6 : decode cX8_reportByte 6 = .ok (.iconst 0, 1) := by decide +kernel
theorem dX8_reportByte_7 : decode cX8_reportByte 7 = .ok (.aload_n 0, 1) := by decide +kernel
theorem dX8_reportByte_8 : decode cX8_reportByte 8 = .ok (.getfield 370, 3) := by decide +kernel
theorem dX8_reportByte_11 : decode cX8_reportByte 11 = .ok (.iconst 1, 1) := by decide +kernel
theorem dX8_reportByte_12 : decode cX8_reportByte 12 = .ok (.isub, 1) := by decide +kernel
theorem dX8_reportByte_13 : decode cX8_reportByte 13 = .ok (.invokestatic 67, 3) := by decide +kernel
theorem dX8_reportByte_16 : decode cX8_reportByte 16 = .ok (.ifCond .eq 12, 3) := by decide +kernel
theorem dX8_reportByte_19 : decode cX8_reportByte 19 = .ok (.aload_n 0, 1) := by decide +kernel
theorem dX8_reportByte_20 : decode cX8_reportByte 20 = .ok (.getfield 47, 3) := by decide +kernel
theorem dX8_reportByte_23 : decode cX8_reportByte 23 = .ok (.iload_n 1, 1) := by decide +kernel
theorem dX8_reportByte_24 : decode cX8_reportByte 24 = .ok (.caload, 1) := by decide +kernel
theorem dX8_reportByte_25 : decode cX8_reportByte 25 = .ok (.goto 4, 3) := by decide +kernel
theorem dX8_reportByte_28 : decode cX8_reportByte 28 = .ok (.iconst (-1), 1) := by decide +kernel
theorem dX8_reportByte_29 : decode cX8_reportByte 29 = .ok (.ireturn, 1) := by decide +kernel
theorem dJx29ce0_ordinal_8abf5_0 : decode cJx29ce0_ordinal_8abf5 0 = .ok (.aload_n 0, 1) := by decide +kernel
theorem dJx29ce0_ordinal_8abf5_1 : decode cJx29ce0_ordinal_8abf5 1 = .ok (.getfield 7, 3) := by decide +kernel
theorem dJx29ce0_ordinal_8abf5_4 : decode cJx29ce0_ordinal_8abf5 4 = .ok (.ireturn, 1) := by decide +kernel
theorem dJ6_bitCount_0f7a4_0 : decode cJ6_bitCount_0f7a4 0 = .ok (.iload_n 0, 1) := by decide +kernel
theorem dJ6_bitCount_0f7a4_1 : decode cJ6_bitCount_0f7a4 1 = .ok (.iload_n 0, 1) := by decide +kernel
theorem dJ6_bitCount_0f7a4_2 : decode cJ6_bitCount_0f7a4 2 = .ok (.iconst 1, 1) := by decide +kernel
theorem dJ6_bitCount_0f7a4_3 : decode cJ6_bitCount_0f7a4 3 = .ok (.iushr, 1) := by decide +kernel
theorem dJ6_bitCount_0f7a4_4 : decode cJ6_bitCount_0f7a4 4 = .ok (.ldc_w 265, 3) := by decide +kernel
theorem dJ6_bitCount_0f7a4_7 : decode cJ6_bitCount_0f7a4 7 = .ok (.iand, 1) := by decide +kernel
theorem dJ6_bitCount_0f7a4_8 : decode cJ6_bitCount_0f7a4 8 = .ok (.isub, 1) := by decide +kernel
theorem dJ6_bitCount_0f7a4_9 : decode cJ6_bitCount_0f7a4 9 = .ok (.istore_n 0, 1) := by decide +kernel
theorem dJ6_bitCount_0f7a4_10 : decode cJ6_bitCount_0f7a4 10 = .ok (.iload_n 0, 1) := by decide +kernel
theorem dJ6_bitCount_0f7a4_11 : decode cJ6_bitCount_0f7a4 11 = .ok (.ldc_w 266, 3) := by decide +kernel
theorem dJ6_bitCount_0f7a4_14 : decode cJ6_bitCount_0f7a4 14 = .ok (.iand, 1) := by decide +kernel
theorem dJ6_bitCount_0f7a4_15 : decode cJ6_bitCount_0f7a4 15 = .ok (.iload_n 0, 1) := by decide +kernel
theorem dJ6_bitCount_0f7a4_16 : decode cJ6_bitCount_0f7a4 16 = .ok (.iconst 2, 1) := by decide +kernel
theorem dJ6_bitCount_0f7a4_17 : decode cJ6_bitCount_0f7a4 17 = .ok (.iushr, 1) := by decide +kernel
theorem dJ6_bitCount_0f7a4_18 : decode cJ6_bitCount_0f7a4 18 = .ok (.ldc_w 266, 3) := by decide +kernel
theorem dJ6_bitCount_0f7a4_21 : decode cJ6_bitCount_0f7a4 21 = .ok (.iand, 1) := by decide +kernel
theorem dJ6_bitCount_0f7a4_22 : decode cJ6_bitCount_0f7a4 22 = .ok (.iadd, 1) := by decide +kernel
theorem dJ6_bitCount_0f7a4_23 : decode cJ6_bitCount_0f7a4 23 = .ok (.istore_n 0, 1) := by decide +kernel
theorem dJ6_bitCount_0f7a4_24 : decode cJ6_bitCount_0f7a4 24 = .ok (.iload_n 0, 1) := by decide +kernel
theorem dJ6_bitCount_0f7a4_25 : decode cJ6_bitCount_0f7a4 25 = .ok (.iload_n 0, 1) := by decide +kernel
theorem dJ6_bitCount_0f7a4_26 : decode cJ6_bitCount_0f7a4 26 = .ok (.iconst 4, 1) := by decide +kernel
theorem dJ6_bitCount_0f7a4_27 : decode cJ6_bitCount_0f7a4 27 = .ok (.iushr, 1) := by decide +kernel
theorem dJ6_bitCount_0f7a4_28 : decode cJ6_bitCount_0f7a4 28 = .ok (.iadd, 1) := by decide +kernel
theorem dJ6_bitCount_0f7a4_29 : decode cJ6_bitCount_0f7a4 29 = .ok (.ldc_w 267, 3) := by decide +kernel
theorem dJ6_bitCount_0f7a4_32 : decode cJ6_bitCount_0f7a4 32 = .ok (.iand, 1) := by decide +kernel
theorem dJ6_bitCount_0f7a4_33 : decode cJ6_bitCount_0f7a4 33 = .ok (.istore_n 0, 1) := by decide +kernel
theorem dJ6_bitCount_0f7a4_34 : decode cJ6_bitCount_0f7a4 34 = .ok (.iload_n 0, 1) := by decide +kernel
theorem dJ6_bitCount_0f7a4_35 : decode cJ6_bitCount_0f7a4 35 = .ok (.iload_n 0, 1) := by decide +kernel
theorem dJ6_bitCount_0f7a4_36 : decode cJ6_bitCount_0f7a4 36 = .ok (.bipush 8, 2) := by decide +kernel
theorem dJ6_bitCount_0f7a4_38 : decode cJ6_bitCount_0f7a4 38 = .ok (.iushr, 1) := by decide +kernel
theorem dJ6_bitCount_0f7a4_39 : decode cJ6_bitCount_0f7a4 39 = .ok (.iadd, 1) := by decide +kernel
theorem dJ6_bitCount_0f7a4_40 : decode cJ6_bitCount_0f7a4 40 = .ok (.istore_n 0, 1) := by decide +kernel
theorem dJ6_bitCount_0f7a4_41 : decode cJ6_bitCount_0f7a4 41 = .ok (.iload_n 0, 1) := by decide +kernel
theorem dJ6_bitCount_0f7a4_42 : decode cJ6_bitCount_0f7a4 42 = .ok (.iload_n 0, 1) := by decide +kernel
theorem dJ6_bitCount_0f7a4_43 : decode cJ6_bitCount_0f7a4 43 = .ok (.bipush 16, 2) := by decide +kernel
theorem dJ6_bitCount_0f7a4_45 : decode cJ6_bitCount_0f7a4 45 = .ok (.iushr, 1) := by decide +kernel
theorem dJ6_bitCount_0f7a4_46 : decode cJ6_bitCount_0f7a4 46 = .ok (.iadd, 1) := by decide +kernel
theorem dJ6_bitCount_0f7a4_47 : decode cJ6_bitCount_0f7a4 47 = .ok (.istore_n 0, 1) := by decide +kernel
theorem dJ6_bitCount_0f7a4_48 : decode cJ6_bitCount_0f7a4 48 = .ok (.iload_n 0, 1) := by decide +kernel
theorem dJ6_bitCount_0f7a4_49 : decode cJ6_bitCount_0f7a4 49 = .ok (.bipush 63, 2) := by decide +kernel
theorem dJ6_bitCount_0f7a4_51 : decode cJ6_bitCount_0f7a4 51 = .ok (.iand, 1) := by decide +kernel
theorem dJ6_bitCount_0f7a4_52 : decode cJ6_bitCount_0f7a4 52 = .ok (.ireturn, 1) := by decide +kernel
theorem dJ9_abs_0f7a4_0 : decode cJ9_abs_0f7a4 0 = .ok (.iload_n 0, 1) := by decide +kernel
theorem dJ9_abs_0f7a4_1 : decode cJ9_abs_0f7a4 1 = .ok (.ifCond .ge 8, 3) := by decide +kernel
theorem dJ9_abs_0f7a4_4 : decode cJ9_abs_0f7a4 4 = .ok (.iload_n 0, 1) := by decide +kernel
theorem dJ9_abs_0f7a4_5 : decode cJ9_abs_0f7a4 5 = .ok (.ineg, 1) := by decide +kernel
theorem dJ9_abs_0f7a4_6 : decode cJ9_abs_0f7a4 6 = .ok (.goto 4, 3) := by decide +kernel
theorem dJ9_abs_0f7a4_9 : decode cJ9_abs_0f7a4 9 = .ok (.iload_n 0, 1) := by decide +kernel
theorem dJ9_abs_0f7a4_10 : decode cJ9_abs_0f7a4 10 = .ok (.ireturn, 1) := by decide +kernel
theorem dJ9_max_7cf53_0 : decode cJ9_max_7cf53 0 = .ok (.iload_n 0, 1) := by decide +kernel
theorem dJ9_max_7cf53_1 : decode cJ9_max_7cf53 1 = .ok (.iload_n 1, 1) := by decide +kernel
theorem dJ9_max_7cf53_2 : decode cJ9_max_7cf53 2 = .ok (.if_icmp .lt 7, 3) := by decide +kernel
theorem dJ9_max_7cf53_5 : decode cJ9_max_7cf53 5 = .ok (.iload_n 0, 1) := by decide +kernel
theorem dJ9_max_7cf53_6 : decode cJ9_max_7cf53 6 = .ok (.goto 4, 3) := by decide +kernel
theorem dJ9_max_7cf53_9 : decode cJ9_max_7cf53 9 = .ok (.iload_n 1, 1) := by decide +kernel
theorem dJ9_max_7cf53_10 : decode cJ9_max_7cf53 10 = .ok (.ireturn, 1) := by decide +kernel
theorem dJ9_min_7cf53_0 : decode cJ9_min_7cf53 0 = .ok (.iload_n 0, 1) := by decide +kernel
theorem dJ9_min_7cf53_1 : decode cJ9_min_7cf53 1 = .ok (.iload_n 1, 1) := by decide +kernel
theorem dJ9_min_7cf53_2 : decode cJ9_min_7cf53 2 = .ok (.if_icmp .gt 7, 3) := by decide +kernel
theorem dJ9_min_7cf53_5 : decode cJ9_min_7cf53 5 = .ok (.iload_n 0, 1) := by decide +kernel
theorem dJ9_min_7cf53_6 : decode cJ9_min_7cf53 6 = .ok (.goto 4, 3) := by decide +kernel
theorem dJ9_min_7cf53_9 : decode cJ9_min_7cf53 9 = .ok (.iload_n 1, 1) := by decide +kernel
theorem dJ9_min_7cf53_10 : decode cJ9_min_7cf53 10 = .ok (.ireturn, 1) := by decide +kernel
theorem dJ0_length_8abf5_0 : decode cJ0_length_8abf5 0 = .ok (.aload_n 0, 1) := by decide +kernel
theorem dJ0_length_8abf5_1 : decode cJ0_length_8abf5 1 = .ok (.getfield 9, 3) := by decide +kernel
theorem dJ0_length_8abf5_4 : decode cJ0_length_8abf5 4 = .ok (.arraylength, 1) := by decide +kernel
theorem dJ0_length_8abf5_5 : decode cJ0_length_8abf5 5 = .ok (.aload_n 0, 1) := by decide +kernel
theorem dJ0_length_8abf5_6 : decode cJ0_length_8abf5 6 = .ok (.invokevirtual 335, 3) := by decide +kernel
theorem dJ0_length_8abf5_9 : decode cJ0_length_8abf5 9 = .ok (.ishr, 1) := by decide +kernel
theorem dJ0_length_8abf5_10 : decode cJ0_length_8abf5 10 = .ok (.ireturn, 1) := by decide +kernel
theorem dJ0_charAt_5068e_0 : decode cJ0_charAt_5068e 0 = .ok (.aload_n 0, 1) := by decide +kernel
theorem dJ0_charAt_5068e_1 : decode cJ0_charAt_5068e 1 = .ok (.invokevirtual 492, 3) := by decide +kernel
theorem dJ0_charAt_5068e_4 : decode cJ0_charAt_5068e 4 = .ok (.ifCond .eq 12, 3) := by decide +kernel
theorem dJ0_charAt_5068e_7 : decode cJ0_charAt_5068e 7 = .ok (.aload_n 0, 1) := by decide +kernel
theorem dJ0_charAt_5068e_8 : decode cJ0_charAt_5068e 8 = .ok (.getfield 9, 3) := by decide +kernel
theorem dJ0_charAt_5068e_11 : decode cJ0_charAt_5068e 11 = .ok (.iload_n 1, 1) := by decide +kernel
theorem dJ0_charAt_5068e_12 : decode cJ0_charAt_5068e 12 = .ok (.invokestatic 495, 3) := by decide +kernel
theorem dJ0_charAt_5068e_15 : decode cJ0_charAt_5068e 15 = .ok (.ireturn, 1) := by decide +kernel
theorem dJ0_charAt_5068e_16 : decode cJ0_charAt_5068e 16 = .ok (.aload_n 0, 1) := by decide +kernel
theorem dJ0_charAt_5068e_17 : decode cJ0_charAt_5068e 17 = .ok (.getfield 9, 3) := by decide +kernel
theorem dJ0_charAt_5068e_20 : decode cJ0_charAt_5068e 20 = .ok (.iload_n 1, 1) := by decide +kernel
theorem dJ0_charAt_5068e_21 : decode cJ0_charAt_5068e 21 = .ok (.invokestatic 498, 3) := by decide +kernel
theorem dJ0_charAt_5068e_24 : decode cJ0_charAt_5068e 24 = .ok (.ireturn, 1) := by decide +kernel
theorem dJ0_coder_7d493_0 : decode cJ0_coder_7d493 0 = .ok (.getstatic 38, 3) := by decide +kernel
theorem dJ0_coder_7d493_3 : decode cJ0_coder_7d493 3 = .ok (.ifCond .eq 10, 3) := by decide +kernel
theorem dJ0_coder_7d493_6 : decode cJ0_coder_7d493 6 = .ok (.aload_n 0, 1) := by decide +kernel
theorem dJ0_coder_7d493_7 : decode cJ0_coder_7d493 7 = .ok (.getfield 15, 3) := by decide +kernel
theorem dJ0_coder_7d493_10 : decode cJ0_coder_7d493 10 = .ok (.goto 4, 3) := by decide +kernel
theorem dJ0_coder_7d493_13 : decode cJ0_coder_7d493 13 = .ok (.iconst 1, 1) := by decide +kernel
theorem dJ0_coder_7d493_14 : decode cJ0_coder_7d493 14 = .ok (.ireturn, 1) := by decide +kernel
theorem dJ0_isLatin1_aae02_0 : decode cJ0_isLatin1_aae02 0 = .ok (.getstatic 38, 3) := by decide +kernel
theorem dJ0_isLatin1_aae02_3 : decode cJ0_isLatin1_aae02 3 = .ok (.ifCond .eq 14, 3) := by decide +kernel
theorem dJ0_isLatin1_aae02_6 : decode cJ0_isLatin1_aae02 6 = .ok (.aload_n 0, 1) := by decide +kernel
theorem dJ0_isLatin1_aae02_7 : decode cJ0_isLatin1_aae02 7 = .ok (.getfield 15, 3) := by decide +kernel
theorem dJ0_isLatin1_aae02_10 : decode cJ0_isLatin1_aae02 10 = .ok (.ifCond .ne 7, 3) := by decide +kernel
theorem dJ0_isLatin1_aae02_13 : decode cJ0_isLatin1_aae02 13 = .ok (.iconst 1, 1) := by decide +kernel
theorem dJ0_isLatin1_aae02_14 : decode cJ0_isLatin1_aae02 14 = .ok (.goto 4, 3) := by decide +kernel
theorem dJ0_isLatin1_aae02_17 : decode cJ0_isLatin1_aae02 17 = .ok (.iconst 0, 1) := by decide +kernel
theorem dJ0_isLatin1_aae02_18 : decode cJ0_isLatin1_aae02 18 = .ok (.ireturn, 1) := by decide +kernel
theorem dJ0_checkIndex_df160_0 : decode cJ0_checkIndex_df160 0 = .ok (.iload_n 0, 1) := by decide +kernel
theorem dJ0_checkIndex_df160_1 : decode cJ0_checkIndex_df160 1 = .ok (.iload_n 1, 1) := by decide +kernel
theorem dJ0_checkIndex_df160_2 : decode cJ0_checkIndex_df160 2 = .ok (.getstatic 1053, 3) := by decide +kernel
theorem dJ0_checkIndex_df160_5 : decode cJ0_checkIndex_df160 5 = .ok (.invokestatic 1059, 3) := by decide +kernel
theorem dJ0_checkIndex_df160_8 : decode cJ0_checkIndex_df160 8 = .ok (.pop, 1) := by decide +kernel
theorem dJ0_checkIndex_df160_9 : decode cJ0_checkIndex_df160 9 = .ok (.return_, 1) := by decide +kernel
theorem dJ1_charAt_3b067_0 : decode cJ1_charAt_3b067 0 = .ok (.iload_n 1, 1) := by decide +kernel
theorem dJ1_charAt_3b067_1 : decode cJ1_charAt_3b067 1 = .ok (.aload_n 0, 1) := by decide +kernel
theorem dJ1_charAt_3b067_2 : decode cJ1_charAt_3b067 2 = .ok (.arraylength, 1) := by decide +kernel
theorem dJ1_charAt_3b067_3 : decode cJ1_charAt_3b067 3 = .ok (.invokestatic 9, 3) := by decide +kernel
theorem dJ1_charAt_3b067_6 : decode cJ1_charAt_3b067 6 = .ok (.aload_n 0, 1) := by decide +kernel
theorem dJ1_charAt_3b067_7 : decode cJ1_charAt_3b067 7 = .ok (.iload_n 1, 1) := by decide +kernel
theorem dJ1_charAt_3b067_8 : decode cJ1_charAt_3b067 8 = .ok (.baload, 1) := by decide +kernel
theorem dJ1_charAt_3b067_9 : decode cJ1_charAt_3b067 9 = .ok (.sipush 255, 3) := by decide +kernel
theorem dJ1_charAt_3b067_12 : decode cJ1_charAt_3b067 12 = .ok (.iand, 1) := by decide +kernel
theorem dJ1_charAt_3b067_13 : decode cJ1_charAt_3b067 13 = .ok (.i2c, 1) := by decide +kernel
theorem dJ1_charAt_3b067_14 : decode cJ1_charAt_3b067 14 = .ok (.ireturn, 1) := by decide +kernel
theorem dJ2_getChar_3b067_0 : decode cJ2_getChar_3b067 0 = .ok (.getstatic 44, 3) := by decide +kernel
theorem dJ2_getChar_3b067_3 : decode cJ2_getChar_3b067 3 = .ok (.ifCond .ne 25, 3) := by decide +kernel
theorem dJ2_getChar_3b067_6 : decode cJ2_getChar_3b067 6 = .ok (.iload_n 1, 1) := by decide +kernel
theorem dJ2_getChar_3b067_7 : decode cJ2_getChar_3b067 7 = .ok (.ifCond .lt 11, 3) := by decide +kernel
theorem dJ2_getChar_3b067_10 : decode cJ2_getChar_3b067 10 = .ok (.iload_n 1, 1) := by decide +kernel
theorem dJ2_getChar_3b067_11 : decode cJ2_getChar_3b067 11 = .ok (.aload_n 0, 1) := by decide +kernel
theorem dJ2_getChar_3b067_12 : decode cJ2_getChar_3b067 12 = .ok (.invokestatic 48, 3) := by decide +kernel
theorem dJ2_getChar_3b067_15 : decode cJ2_getChar_3b067 15 = .ok (.if_icmp .lt 13, 3) := by decide +kernel
theorem dJ2_getChar_3b067_18 : decode cJ2_getChar_3b067 18 = .ok (.new 52, 3) := by decide +kernel
theorem dJ2_getChar_3b067_21 : decode cJ2_getChar_3b067 21 = .ok (.dup, 1) := by decide +kernel
theorem dJ2_getChar_3b067_22 : decode cJ2_getChar_3b067 22 = .ok (.ldc 54, 2) := by decide +kernel
theorem dJ2_getChar_3b067_24 : decode cJ2_getChar_3b067 24 = .ok (.invokespecial 56, 3) := by decide +kernel
theorem dJ2_getChar_3b067_27 : decode cJ2_getChar_3b067 27 = .ok (.athrow, 1) := by decide +kernel
theorem dJ2_getChar_3b067_28 : decode cJ2_getChar_3b067 28 = .ok (.iload_n 1, 1) := by decide +kernel
theorem dJ2_getChar_3b067_29 : decode cJ2_getChar_3b067 29 = .ok (.iconst 1, 1) := by decide +kernel
theorem dJ2_getChar_3b067_30 : decode cJ2_getChar_3b067 30 = .ok (.ishl, 1) := by decide +kernel
theorem dJ2_getChar_3b067_31 : decode cJ2_getChar_3b067 31 = .ok (.istore_n 1, 1) := by decide +kernel
theorem dJ2_getChar_3b067_32 : decode cJ2_getChar_3b067 32 = .ok (.aload_n 0, 1) := by decide +kernel
theorem dJ2_getChar_3b067_33 : decode cJ2_getChar_3b067 33 = .ok (.iload_n 1, 1) := by decide +kernel
theorem dJ2_getChar_3b067_34 : decode cJ2_getChar_3b067 34 = .ok (.iinc 1 1, 3) := by decide +kernel
theorem dJ2_getChar_3b067_37 : decode cJ2_getChar_3b067 37 = .ok (.baload, 1) := by decide +kernel
theorem dJ2_getChar_3b067_38 : decode cJ2_getChar_3b067 38 = .ok (.sipush 255, 3) := by decide +kernel
theorem dJ2_getChar_3b067_41 : decode cJ2_getChar_3b067 41 = .ok (.iand, 1) := by decide +kernel
theorem dJ2_getChar_3b067_42 : decode cJ2_getChar_3b067 42 = .ok (.getstatic 59, 3) := by decide +kernel
theorem dJ2_getChar_3b067_45 : decode cJ2_getChar_3b067 45 = .ok (.ishl, 1) := by decide +kernel
theorem dJ2_getChar_3b067_46 : decode cJ2_getChar_3b067 46 = .ok (.aload_n 0, 1) := by decide +kernel
theorem dJ2_getChar_3b067_47 : decode cJ2_getChar_3b067 47 = .ok (.iload_n 1, 1) := by decide +kernel
theorem dJ2_getChar_3b067_48 : decode cJ2_getChar_3b067 48 = .ok (.baload, 1) := by decide +kernel
theorem dJ2_getChar_3b067_49 : decode cJ2_getChar_3b067 49 = .ok (.sipush 255, 3) := by decide +kernel
theorem dJ2_getChar_3b067_52 : decode cJ2_getChar_3b067 52 = .ok (.iand, 1) := by decide +kernel
theorem dJ2_getChar_3b067_53 : decode cJ2_getChar_3b067 53 = .ok (.getstatic 63, 3) := by decide +kernel
theorem dJ2_getChar_3b067_56 : decode cJ2_getChar_3b067 56 = .ok (.ishl, 1) := by decide +kernel
theorem dJ2_getChar_3b067_57 : decode cJ2_getChar_3b067 57 = .ok (.ior, 1) := by decide +kernel
theorem dJ2_getChar_3b067_58 : decode cJ2_getChar_3b067 58 = .ok (.i2c, 1) := by decide +kernel
theorem dJ2_getChar_3b067_59 : decode cJ2_getChar_3b067 59 = .ok (.ireturn, 1) := by decide +kernel
theorem dJ2_length_9d52b_0 : decode cJ2_length_9d52b 0 = .ok (.aload_n 0, 1) := by decide +kernel
theorem dJ2_length_9d52b_1 : decode cJ2_length_9d52b 1 = .ok (.arraylength, 1) := by decide +kernel
theorem dJ2_length_9d52b_2 : decode cJ2_length_9d52b 2 = .ok (.iconst 1, 1) := by decide +kernel
theorem dJ2_length_9d52b_3 : decode cJ2_length_9d52b 3 = .ok (.ishr, 1) := by decide +kernel
theorem dJ2_length_9d52b_4 : decode cJ2_length_9d52b 4 = .ok (.ireturn, 1) := by decide +kernel
theorem dJ2_charAt_3b067_0 : decode cJ2_charAt_3b067 0 = .ok (.iload_n 1, 1) := by decide +kernel
theorem dJ2_charAt_3b067_1 : decode cJ2_charAt_3b067 1 = .ok (.aload_n 0, 1) := by decide +kernel
theorem dJ2_charAt_3b067_2 : decode cJ2_charAt_3b067 2 = .ok (.invokestatic 67, 3) := by decide +kernel
theorem dJ2_charAt_3b067_5 : decode cJ2_charAt_3b067 5 = .ok (.aload_n 0, 1) := by decide +kernel
theorem dJ2_charAt_3b067_6 : decode cJ2_charAt_3b067 6 = .ok (.iload_n 1, 1) := by decide +kernel
theorem dJ2_charAt_3b067_7 : decode cJ2_charAt_3b067 7 = .ok (.invokestatic 71, 3) := by decide +kernel
theorem dJ2_charAt_3b067_10 : decode cJ2_charAt_3b067 10 = .ok (.ireturn, 1) := by decide +kernel
theorem dJ2_checkIndex_2214a_0 : decode cJ2_checkIndex_2214a 0 = .ok (.iload_n 0, 1) := by decide +kernel
theorem dJ2_checkIndex_2214a_1 : decode cJ2_checkIndex_2214a 1 = .ok (.aload_n 1, 1) := by decide +kernel
theorem dJ2_checkIndex_2214a_2 : decode cJ2_checkIndex_2214a 2 = .ok (.invokestatic 48, 3) := by decide +kernel
theorem dJ2_checkIndex_2214a_5 : decode cJ2_checkIndex_2214a 5 = .ok (.invokestatic 414, 3) := by decide +kernel
theorem dJ2_checkIndex_2214a_8 : decode cJ2_checkIndex_2214a 8 = .ok (.return_, 1) := by decide +kernel
theorem dJ3_checkIndex_8e157_0 : decode cJ3_checkIndex_8e157 0 = .ok (.iload_n 0, 1) := by decide +kernel
theorem dJ3_checkIndex_8e157_1 : decode cJ3_checkIndex_8e157 1 = .ok (.ifCond .lt 8, 3) := by decide +kernel
theorem dJ3_checkIndex_8e157_4 : decode cJ3_checkIndex_8e157 4 = .ok (.iload_n 0, 1) := by decide +kernel
theorem dJ3_checkIndex_8e157_5 : decode cJ3_checkIndex_8e157 5 = .ok (.iload_n 1, 1) := by decide +kernel
theorem dJ3_checkIndex_8e157_6 : decode cJ3_checkIndex_8e157 6 = .ok (.if_icmp .lt 10, 3) := by decide +kernel
theorem dJ3_checkIndex_8e157_9 : decode cJ3_checkIndex_8e157 9 = .ok (.aload_n 2, 1) := by decide +kernel
theorem dJ3_checkIndex_8e157_10 : decode cJ3_checkIndex_8e157 10 = .ok (.iload_n 0, 1) := by decide +kernel
theorem dJ3_checkIndex_8e157_11 : decode cJ3_checkIndex_8e157 11 = .ok (.iload_n 1, 1) := by decide +kernel
theorem dJ3_checkIndex_8e157_12 : decode cJ3_checkIndex_8e157 12 = .ok (.invokestatic 95, 3) := by decide +kernel
theorem dJ3_checkIndex_8e157_15 : decode cJ3_checkIndex_8e157 15 = .ok (.athrow, 1) := by decide +kernel
theorem dJ3_checkIndex_8e157_16 : decode cJ3_checkIndex_8e157 16 = .ok (.iload_n 0, 1) := by decide +kernel
theorem dJ3_checkIndex_8e157_17 : decode cJ3_checkIndex_8e157 17 = .ok (.ireturn, 1) := by decide +kernel
theorem dL_truncateInput_0 : decode cL_truncateInput 0 = .ok (.aload_n 2, 1) := by decide +kernel
theorem dL_truncateInput_1 : decode cL_truncateInput 1 = .ok (.iconst 0, 1) := by decide +kernel
theorem dL_truncateInput_2 : decode cL_truncateInput 2 = .ok (.aload_n 0, 1) := by decide +kernel
theorem dL_truncateInput_3 : decode cL_truncateInput 3 = .ok (.iload_n 1, 1) := by decide +kernel
theorem dL_truncateInput_4 : decode cL_truncateInput 4 = .ok (.invokevirtual 7, 3) := by decide +kernel
theorem dL_truncateInput_7 : decode cL_truncateInput 7 = .ok (.i2l, 1) := by decide +kernel
theorem dL_truncateInput_8 : decode cL_truncateInput 8 = .ok (.lastore, 1) := by decide +kernel
theorem dL_truncateInput_9 : decode cL_truncateInput 9 = .ok (.goto 6, 3) := by decide +kernel
theorem dL_truncateInput_12 : decode cL_truncateInput 12 = .ok (.astore_n 3, 1) := by decide +kernel
theorem dL_truncateInput_13 : decode cL_truncateInput 13 = .ok (.iconst 1, 1) := by decide +kernel
theorem dL_truncateInput_14 : decode cL_truncateInput 14 = .ok (.ireturn, 1) := by decide +kernel
theorem dL_truncateInput_15 : decode cL_truncateInput 15 = .ok (.iconst 0, 1) := by decide +kernel
theorem dL_truncateInput_16 : decode cL_truncateInput 16 = .ok (.ireturn, 1) := by decide +kernel
theorem dL_add_0 : decode cL_add 0 = .ok (.aload_n 3, 1) := by decide +kernel
theorem dL_add_1 : decode cL_add 1 = .ok (.iconst 0, 1) := by decide +kernel
theorem dL_add_2 : decode cL_add 2 = .ok (.aload_n 0, 1) := by decide +kernel
theorem dL_add_3 : decode cL_add 3 = .ok (.iload_n 1, 1) := by decide +kernel
theorem dL_add_4 : decode cL_add 4 = .ok (.iload_n 2, 1) := by decide +kernel
theorem dL_add_5 : decode cL_add 5 = .ok (.invokevirtual 15, 3) := by decide +kernel
theorem dL_add_8 : decode cL_add 8 = .ok (.i2l, 1) := by decide +kernel
theorem dL_add_9 : decode cL_add 9 = .ok (.lastore, 1) := by decide +kernel
theorem dL_add_10 : decode cL_add 10 = .ok (.goto 11, 3) := by decide +kernel
theorem dL_add_13 : decode cL_add 13 = .ok (.astore 4, 2) := by decide +kernel
theorem dL_add_15 : decode cL_add 15 = .ok (.iconst 1, 1) := by decide +kernel
theorem dL_add_16 : decode cL_add 16 = .ok (.ireturn, 1) := by decide +kernel
theorem dL_add_17 : decode cL_add 17 = .ok (.astore 4, 2) := by decide +kernel
theorem dL_add_19 : decode cL_add 19 = .ok (.iconst 2, 1) := by decide +kernel
theorem dL_add_20 : decode cL_add 20 = .ok (.ireturn, 1) := by decide +kernel
theorem dL_add_21 : decode cL_add 21 = .ok (.iconst 0, 1) := by decide +kernel
theorem dL_add_22 : decode cL_add 22 = .ok (.ireturn, 1) := by decide +kernel
theorem dL_put_0 : decode cL_put 0 = .ok (.aload_n 3, 1) := by decide +kernel
theorem dL_put_1 : decode cL_put 1 = .ok (.iconst 0, 1) := by decide +kernel
theorem dL_put_2 : decode cL_put 2 = .ok (.aload_n 0, 1) := by decide +kernel
theorem dL_put_3 : decode cL_put 3 = .ok (.iload_n 1, 1) := by decide +kernel
theorem dL_put_4 : decode cL_put 4 = .ok (.iload_n 2, 1) := by decide +kernel
theorem dL_put_5 : decode cL_put 5 = .ok (.invokevirtual 21, 3) := by decide +kernel
theorem dL_put_8 : decode cL_put 8 = .ok (.i2l, 1) := by decide +kernel
theorem dL_put_9 : decode cL_put 9 = .ok (.lastore, 1) := by decide +kernel
theorem dL_put_10 : decode cL_put 10 = .ok (.goto 11, 3) := by decide +kernel
theorem dL_put_13 : decode cL_put 13 = .ok (.astore 4, 2) := by decide +kernel
theorem dL_put_15 : decode cL_put 15 = .ok (.iconst 1, 1) := by decide +kernel
theorem dL_put_16 : decode cL_put 16 = .ok (.ireturn, 1) := by decide +kernel
theorem dL_put_17 : decode cL_put 17 = .ok (.astore 4, 2) := by decide +kernel
theorem dL_put_19 : decode cL_put 19 = .ok (.iconst 2, 1) := by decide +kernel
theorem dL_put_20 : decode cL_put 20 = .ok (.ireturn, 1) := by decide +kernel
theorem dL_put_21 : decode cL_put 21 = .ok (.iconst 0, 1) := by decide +kernel
theorem dL_put_22 : decode cL_put 22 = .ok (.ireturn, 1) := by decide +kernel
theorem dL_addRow_0 : decode cL_addRow 0 = .ok (.aload 4, 2) := by decide +kernel
theorem dL_addRow_2 : decode cL_addRow 2 = .ok (.iconst 0, 1) := by decide +kernel
theorem dL_addRow_3 : decode cL_addRow 3 = .ok (.aload_n 0, 1) := by decide +kernel
theorem dL_addRow_4 : decode cL_addRow 4 = .ok (.iload_n 1, 1) := by decide +kernel
theorem dL_addRow_5 : decode cL_addRow 5 = .ok (.iload_n 2, 1) := by decide +kernel
theorem dL_addRow_6 : decode cL_addRow 6 = .ok (.iload_n 3, 1) := by decide +kernel
theorem dL_addRow_7 : decode cL_addRow 7 = .ok (.invokevirtual 24, 3) := by decide +kernel
theorem dL_addRow_10 : decode cL_addRow 10 = .ok (.i2l, 1) := by decide +kernel
theorem dL_addRow_11 : decode cL_addRow 11 = .ok (.lastore, 1) := by decide +kernel
theorem dL_addRow_12 : decode cL_addRow 12 = .ok (.goto 11, 3) := by decide +kernel
theorem dL_addRow_15 : decode cL_addRow 15 = .ok (.astore 5, 2) := by decide +kernel
theorem dL_addRow_17 : decode cL_addRow 17 = .ok (.iconst 1, 1) := by decide +kernel
theorem dL_addRow_18 : decode cL_addRow 18 = .ok (.ireturn, 1) := by decide +kernel
theorem dL_addRow_19 : decode cL_addRow 19 = .ok (.astore 5, 2) := by decide +kernel
theorem dL_addRow_21 : decode cL_addRow 21 = .ok (.iconst 2, 1) := by decide +kernel
theorem dL_addRow_22 : decode cL_addRow 22 = .ok (.ireturn, 1) := by decide +kernel
theorem dL_addRow_23 : decode cL_addRow 23 = .ok (.iconst 0, 1) := by decide +kernel
theorem dL_addRow_24 : decode cL_addRow 24 = .ok (.ireturn, 1) := by decide +kernel
theorem dL_remove_0 : decode cL_remove 0 = .ok (.aload_n 2, 1) := by decide +kernel
theorem dL_remove_1 : decode cL_remove 1 = .ok (.iconst 0, 1) := by decide +kernel
theorem dL_remove_2 : decode cL_remove 2 = .ok (.aload_n 0, 1) := by decide +kernel
theorem dL_remove_3 : decode cL_remove 3 = .ok (.iload_n 1, 1) := by decide +kernel
theorem dL_remove_4 : decode cL_remove 4 = .ok (.invokevirtual 28, 3) := by decide +kernel
theorem dL_remove_7 : decode cL_remove 7 = .ok (.i2l, 1) := by decide +kernel
theorem dL_remove_8 : decode cL_remove 8 = .ok (.lastore, 1) := by decide +kernel
theorem dL_remove_9 : decode cL_remove 9 = .ok (.goto 6, 3) := by decide +kernel
theorem dL_remove_12 : decode cL_remove 12 = .ok (.astore_n 3, 1) := by decide +kernel
theorem dL_remove_13 : decode cL_remove 13 = .ok (.iconst 1, 1) := by decide +kernel
theorem dL_remove_14 : decode cL_remove 14 = .ok (.ireturn, 1) := by decide +kernel
theorem dL_remove_15 : decode cL_remove 15 = .ok (.iconst 0, 1) := by decide +kernel
theorem dL_remove_16 : decode cL_remove 16 = .ok (.ireturn, 1) := by decide +kernel
theorem dL_setNeighbourhood_0 : decode cL_setNeighbourhood 0 = .ok (.aload_n 2, 1) := by decide +kernel
theorem dL_setNeighbourhood_1 : decode cL_setNeighbourhood 1 = .ok (.iconst 0, 1) := by decide +kernel
theorem dL_setNeighbourhood_2 : decode cL_setNeighbourhood 2 = .ok (.aload_n 0, 1) := by decide +kernel
theorem dL_setNeighbourhood_3 : decode cL_setNeighbourhood 3 = .ok (.iload_n 1, 1) := by decide +kernel
theorem dL_setNeighbourhood_4 : decode cL_setNeighbourhood 4 = .ok (.invokevirtual 33, 3) := by decide +kernel
theorem dL_setNeighbourhood_7 : decode cL_setNeighbourhood 7 = .ok (.i2l, 1) := by decide +kernel
theorem dL_setNeighbourhood_8 : decode cL_setNeighbourhood 8 = .ok (.lastore, 1) := by decide +kernel
theorem dL_setNeighbourhood_9 : decode cL_setNeighbourhood 9 = .ok (.goto 9, 3) := by decide +kernel
theorem dL_setNeighbourhood_12 : decode cL_setNeighbourhood 12 = .ok (.astore_n 3, 1) := by decide +kernel
theorem dL_setNeighbourhood_13 : decode cL_setNeighbourhood 13 = .ok (.iconst 1, 1) := by decide +kernel
theorem dL_setNeighbourhood_14 : decode cL_setNeighbourhood 14 = .ok (.ireturn, 1) := by decide +kernel
theorem dL_setNeighbourhood_15 : decode cL_setNeighbourhood 15 = .ok (.astore_n 3, 1) := by decide +kernel
theorem dL_setNeighbourhood_16 : decode cL_setNeighbourhood 16 = .ok (.iconst 2, 1) := by decide +kernel
theorem dL_setNeighbourhood_17 : decode cL_setNeighbourhood 17 = .ok (.ireturn, 1) := by decide +kernel
theorem dL_setNeighbourhood_18 : decode cL_setNeighbourhood 18 = .ok (.iconst 0, 1) := by decide +kernel
theorem dL_setNeighbourhood_19 : decode cL_setNeighbourhood 19 = .ok (.ireturn, 1) := by decide +kernel
theorem dL_setMultiplier_0 : decode cL_setMultiplier 0 = .ok (.aload_n 2, 1) := by decide +kernel
theorem dL_setMultiplier_1 : decode cL_setMultiplier 1 = .ok (.iconst 0, 1) := by decide +kernel
theorem dL_setMultiplier_2 : decode cL_setMultiplier 2 = .ok (.aload_n 0, 1) := by decide +kernel
theorem dL_setMultiplier_3 : decode cL_setMultiplier 3 = .ok (.iload_n 1, 1) := by decide +kernel
theorem dL_setMultiplier_4 : decode cL_setMultiplier 4 = .ok (.invokevirtual 36, 3) := by decide +kernel
theorem dL_setMultiplier_7 : decode cL_setMultiplier 7 = .ok (.i2l, 1) := by decide +kernel
theorem dL_setMultiplier_8 : decode cL_setMultiplier 8 = .ok (.lastore, 1) := by decide +kernel
theorem dL_setMultiplier_9 : decode cL_setMultiplier 9 = .ok (.goto 9, 3) := by decide +kernel
theorem dL_setMultiplier_12 : decode cL_setMultiplier 12 = .ok (.astore_n 3, 1) := by decide +kernel
theorem dL_setMultiplier_13 : decode cL_setMultiplier 13 = .ok (.iconst 1, 1) := by decide +kernel
theorem dL_setMultiplier_14 : decode cL_setMultiplier 14 = .ok (.ireturn, 1) := by decide +kernel
theorem dL_setMultiplier_15 : decode cL_setMultiplier 15 = .ok (.astore_n 3, 1) := by decide +kernel
theorem dL_setMultiplier_16 : decode cL_setMultiplier 16 = .ok (.iconst 2, 1) := by decide +kernel
theorem dL_setMultiplier_17 : decode cL_setMultiplier 17 = .ok (.ireturn, 1) := by decide +kernel
theorem dL_setMultiplier_18 : decode cL_setMultiplier 18 = .ok (.iconst 0, 1) := by decide +kernel
theorem dL_setMultiplier_19 : decode cL_setMultiplier 19 = .ok (.ireturn, 1) := by decide +kernel
theorem dL_grow_0 : decode cL_grow 0 = .ok (.aload_n 1, 1) := by decide +kernel
theorem dL_grow_1 : decode cL_grow 1 = .ok (.iconst 0, 1) := by decide +kernel
theorem dL_grow_2 : decode cL_grow 2 = .ok (.aload_n 0, 1) := by decide +kernel
theorem dL_grow_3 : decode cL_grow 3 = .ok (.invokevirtual 39, 3) := by decide +kernel
theorem dL_grow_6 : decode cL_grow 6 = .ok (.i2l, 1) := by decide +kernel
theorem dL_grow_7 : decode cL_grow 7 = .ok (.lastore, 1) := by decide +kernel
theorem dL_grow_8 : decode cL_grow 8 = .ok (.goto 6, 3) := by decide +kernel
theorem dL_grow_11 : decode cL_grow 11 = .ok (.astore_n 2, 1) := by decide +kernel
theorem dL_grow_12 : decode cL_grow 12 = .ok (.iconst 1, 1) := by decide +kernel
theorem dL_grow_13 : decode cL_grow 13 = .ok (.ireturn, 1) := by decide +kernel
theorem dL_grow_14 : decode cL_grow 14 = .ok (.iconst 0, 1) := by decide +kernel
theorem dL_grow_15 : decode cL_grow 15 = .ok (.ireturn, 1) := by decide +kernel
theorem dL_restoreSnapshot_0 : decode cL_restoreSnapshot 0 = .ok (.aload_n 1, 1) := by decide +kernel
theorem dL_restoreSnapshot_1 : decode cL_restoreSnapshot 1 = .ok (.iconst 0, 1) := by decide +kernel
theorem dL_restoreSnapshot_2 : decode cL_restoreSnapshot 2 = .ok (.aload_n 0, 1) := by decide +kernel
theorem dL_restoreSnapshot_3 : decode cL_restoreSnapshot 3 = .ok (.invokevirtual 43, 3) := by decide +kernel
theorem dL_restoreSnapshot_6 : decode cL_restoreSnapshot 6 = .ok (.i2l, 1) := by decide +kernel
theorem dL_restoreSnapshot_7 : decode cL_restoreSnapshot 7 = .ok (.lastore, 1) := by decide +kernel
theorem dL_restoreSnapshot_8 : decode cL_restoreSnapshot 8 = .ok (.goto 6, 3) := by decide +kernel
theorem dL_restoreSnapshot_11 : decode cL_restoreSnapshot 11 = .ok (.astore_n 2, 1) := by decide +kernel
theorem dL_restoreSnapshot_12 : decode cL_restoreSnapshot 12 = .ok (.iconst 1, 1) := by decide +kernel
theorem dL_restoreSnapshot_13 : decode cL_restoreSnapshot 13 = .ok (.ireturn, 1) := by decide +kernel
theorem dL_restoreSnapshot_14 : decode cL_restoreSnapshot 14 = .ok (.iconst 0, 1) := by decide +kernel
theorem dL_restoreSnapshot_15 : decode cL_restoreSnapshot 15 = .ok (.ireturn, 1) := by decide +kernel
theorem dL_keyAt_0 : decode cL_keyAt 0 = .ok (.aload_n 2, 1) := by decide +kernel
theorem dL_keyAt_1 : decode cL_keyAt 1 = .ok (.iconst 0, 1) := by decide +kernel
theorem dL_keyAt_2 : decode cL_keyAt 2 = .ok (.aload_n 0, 1) := by decide +kernel
theorem dL_keyAt_3 : decode cL_keyAt 3 = .ok (.iload_n 1, 1) := by decide +kernel
theorem dL_keyAt_4 : decode cL_keyAt 4 = .ok (.invokevirtual 46, 3) := by decide +kernel
theorem dL_keyAt_7 : decode cL_keyAt 7 = .ok (.i2l, 1) := by decide +kernel
theorem dL_keyAt_8 : decode cL_keyAt 8 = .ok (.lastore, 1) := by decide +kernel
theorem dL_keyAt_9 : decode cL_keyAt 9 = .ok (.goto 6, 3) := by decide +kernel
theorem dL_keyAt_12 : decode cL_keyAt 12 = .ok (.astore_n 3, 1) := by decide +kernel
theorem dL_keyAt_13 : decode cL_keyAt 13 = .ok (.iconst 1, 1) := by decide +kernel
theorem dL_keyAt_14 : decode cL_keyAt 14 = .ok (.ireturn, 1) := by decide +kernel
theorem dL_keyAt_15 : decode cL_keyAt 15 = .ok (.iconst 0, 1) := by decide +kernel
theorem dL_keyAt_16 : decode cL_keyAt 16 = .ok (.ireturn, 1) := by decide +kernel
theorem dL_valueAt_0 : decode cL_valueAt 0 = .ok (.aload_n 2, 1) := by decide +kernel
theorem dL_valueAt_1 : decode cL_valueAt 1 = .ok (.iconst 0, 1) := by decide +kernel
theorem dL_valueAt_2 : decode cL_valueAt 2 = .ok (.aload_n 0, 1) := by decide +kernel
theorem dL_valueAt_3 : decode cL_valueAt 3 = .ok (.iload_n 1, 1) := by decide +kernel
theorem dL_valueAt_4 : decode cL_valueAt 4 = .ok (.invokevirtual 51, 3) := by decide +kernel
theorem dL_valueAt_7 : decode cL_valueAt 7 = .ok (.i2l, 1) := by decide +kernel
theorem dL_valueAt_8 : decode cL_valueAt 8 = .ok (.lastore, 1) := by decide +kernel
theorem dL_valueAt_9 : decode cL_valueAt 9 = .ok (.goto 6, 3) := by decide +kernel
theorem dL_valueAt_12 : decode cL_valueAt 12 = .ok (.astore_n 3, 1) := by decide +kernel
theorem dL_valueAt_13 : decode cL_valueAt 13 = .ok (.iconst 1, 1) := by decide +kernel
theorem dL_valueAt_14 : decode cL_valueAt 14 = .ok (.ireturn, 1) := by decide +kernel
theorem dL_valueAt_15 : decode cL_valueAt 15 = .ok (.iconst 0, 1) := by decide +kernel
theorem dL_valueAt_16 : decode cL_valueAt 16 = .ok (.ireturn, 1) := by decide +kernel
theorem dL_hopBits_0 : decode cL_hopBits 0 = .ok (.aload_n 2, 1) := by decide +kernel
theorem dL_hopBits_1 : decode cL_hopBits 1 = .ok (.iconst 0, 1) := by decide +kernel
theorem dL_hopBits_2 : decode cL_hopBits 2 = .ok (.aload_n 0, 1) := by decide +kernel
theorem dL_hopBits_3 : decode cL_hopBits 3 = .ok (.iload_n 1, 1) := by decide +kernel
theorem dL_hopBits_4 : decode cL_hopBits 4 = .ok (.invokevirtual 54, 3) := by decide +kernel
theorem dL_hopBits_7 : decode cL_hopBits 7 = .ok (.i2l, 1) := by decide +kernel
theorem dL_hopBits_8 : decode cL_hopBits 8 = .ok (.lastore, 1) := by decide +kernel
theorem dL_hopBits_9 : decode cL_hopBits 9 = .ok (.goto 6, 3) := by decide +kernel
theorem dL_hopBits_12 : decode cL_hopBits 12 = .ok (.astore_n 3, 1) := by decide +kernel
theorem dL_hopBits_13 : decode cL_hopBits 13 = .ok (.iconst 1, 1) := by decide +kernel
theorem dL_hopBits_14 : decode cL_hopBits 14 = .ok (.ireturn, 1) := by decide +kernel
theorem dL_hopBits_15 : decode cL_hopBits 15 = .ok (.iconst 0, 1) := by decide +kernel
theorem dL_hopBits_16 : decode cL_hopBits 16 = .ok (.ireturn, 1) := by decide +kernel
theorem dL_entriesOf_0 : decode cL_entriesOf 0 = .ok (.aload_n 2, 1) := by decide +kernel
theorem dL_entriesOf_1 : decode cL_entriesOf 1 = .ok (.iconst 0, 1) := by decide +kernel
theorem dL_entriesOf_2 : decode cL_entriesOf 2 = .ok (.aload_n 0, 1) := by decide +kernel
theorem dL_entriesOf_3 : decode cL_entriesOf 3 = .ok (.iload_n 1, 1) := by decide +kernel
theorem dL_entriesOf_4 : decode cL_entriesOf 4 = .ok (.invokevirtual 57, 3) := by decide +kernel
theorem dL_entriesOf_7 : decode cL_entriesOf 7 = .ok (.i2l, 1) := by decide +kernel
theorem dL_entriesOf_8 : decode cL_entriesOf 8 = .ok (.lastore, 1) := by decide +kernel
theorem dL_entriesOf_9 : decode cL_entriesOf 9 = .ok (.goto 6, 3) := by decide +kernel
theorem dL_entriesOf_12 : decode cL_entriesOf 12 = .ok (.astore_n 3, 1) := by decide +kernel
theorem dL_entriesOf_13 : decode cL_entriesOf 13 = .ok (.iconst 1, 1) := by decide +kernel
theorem dL_entriesOf_14 : decode cL_entriesOf 14 = .ok (.ireturn, 1) := by decide +kernel
theorem dL_entriesOf_15 : decode cL_entriesOf 15 = .ok (.iconst 0, 1) := by decide +kernel
theorem dL_entriesOf_16 : decode cL_entriesOf 16 = .ok (.ireturn, 1) := by decide +kernel
theorem dL_freeDistance_0 : decode cL_freeDistance 0 = .ok (.aload_n 2, 1) := by decide +kernel
theorem dL_freeDistance_1 : decode cL_freeDistance 1 = .ok (.iconst 0, 1) := by decide +kernel
theorem dL_freeDistance_2 : decode cL_freeDistance 2 = .ok (.aload_n 0, 1) := by decide +kernel
theorem dL_freeDistance_3 : decode cL_freeDistance 3 = .ok (.iload_n 1, 1) := by decide +kernel
theorem dL_freeDistance_4 : decode cL_freeDistance 4 = .ok (.invokevirtual 60, 3) := by decide +kernel
theorem dL_freeDistance_7 : decode cL_freeDistance 7 = .ok (.i2l, 1) := by decide +kernel
theorem dL_freeDistance_8 : decode cL_freeDistance 8 = .ok (.lastore, 1) := by decide +kernel
theorem dL_freeDistance_9 : decode cL_freeDistance 9 = .ok (.goto 6, 3) := by decide +kernel
theorem dL_freeDistance_12 : decode cL_freeDistance 12 = .ok (.astore_n 3, 1) := by decide +kernel
theorem dL_freeDistance_13 : decode cL_freeDistance 13 = .ok (.iconst 1, 1) := by decide +kernel
theorem dL_freeDistance_14 : decode cL_freeDistance 14 = .ok (.ireturn, 1) := by decide +kernel
theorem dL_freeDistance_15 : decode cL_freeDistance 15 = .ok (.iconst 0, 1) := by decide +kernel
theorem dL_freeDistance_16 : decode cL_freeDistance 16 = .ok (.ireturn, 1) := by decide +kernel
theorem dL_homeOf_0 : decode cL_homeOf 0 = .ok (.aload_n 2, 1) := by decide +kernel
theorem dL_homeOf_1 : decode cL_homeOf 1 = .ok (.iconst 0, 1) := by decide +kernel
theorem dL_homeOf_2 : decode cL_homeOf 2 = .ok (.aload_n 0, 1) := by decide +kernel
theorem dL_homeOf_3 : decode cL_homeOf 3 = .ok (.iload_n 1, 1) := by decide +kernel
theorem dL_homeOf_4 : decode cL_homeOf 4 = .ok (.invokevirtual 63, 3) := by decide +kernel
theorem dL_homeOf_7 : decode cL_homeOf 7 = .ok (.i2l, 1) := by decide +kernel
theorem dL_homeOf_8 : decode cL_homeOf 8 = .ok (.lastore, 1) := by decide +kernel
theorem dL_homeOf_9 : decode cL_homeOf 9 = .ok (.goto 6, 3) := by decide +kernel
theorem dL_homeOf_12 : decode cL_homeOf 12 = .ok (.astore_n 3, 1) := by decide +kernel
theorem dL_homeOf_13 : decode cL_homeOf 13 = .ok (.iconst 1, 1) := by decide +kernel
theorem dL_homeOf_14 : decode cL_homeOf 14 = .ok (.ireturn, 1) := by decide +kernel
theorem dL_homeOf_15 : decode cL_homeOf 15 = .ok (.iconst 0, 1) := by decide +kernel
theorem dL_homeOf_16 : decode cL_homeOf 16 = .ok (.ireturn, 1) := by decide +kernel
theorem dL_bucketOf_0 : decode cL_bucketOf 0 = .ok (.aload_n 2, 1) := by decide +kernel
theorem dL_bucketOf_1 : decode cL_bucketOf 1 = .ok (.iconst 0, 1) := by decide +kernel
theorem dL_bucketOf_2 : decode cL_bucketOf 2 = .ok (.aload_n 0, 1) := by decide +kernel
theorem dL_bucketOf_3 : decode cL_bucketOf 3 = .ok (.iload_n 1, 1) := by decide +kernel
theorem dL_bucketOf_4 : decode cL_bucketOf 4 = .ok (.invokevirtual 66, 3) := by decide +kernel
theorem dL_bucketOf_7 : decode cL_bucketOf 7 = .ok (.i2l, 1) := by decide +kernel
theorem dL_bucketOf_8 : decode cL_bucketOf 8 = .ok (.lastore, 1) := by decide +kernel
theorem dL_bucketOf_9 : decode cL_bucketOf 9 = .ok (.goto 6, 3) := by decide +kernel
theorem dL_bucketOf_12 : decode cL_bucketOf 12 = .ok (.astore_n 3, 1) := by decide +kernel
theorem dL_bucketOf_13 : decode cL_bucketOf 13 = .ok (.iconst 1, 1) := by decide +kernel
theorem dL_bucketOf_14 : decode cL_bucketOf 14 = .ok (.ireturn, 1) := by decide +kernel
theorem dL_bucketOf_15 : decode cL_bucketOf 15 = .ok (.iconst 0, 1) := by decide +kernel
theorem dL_bucketOf_16 : decode cL_bucketOf 16 = .ok (.ireturn, 1) := by decide +kernel
theorem dL_valueOf_0 : decode cL_valueOf 0 = .ok (.aload_n 2, 1) := by decide +kernel
theorem dL_valueOf_1 : decode cL_valueOf 1 = .ok (.iconst 0, 1) := by decide +kernel
theorem dL_valueOf_2 : decode cL_valueOf 2 = .ok (.aload_n 0, 1) := by decide +kernel
theorem dL_valueOf_3 : decode cL_valueOf 3 = .ok (.iload_n 1, 1) := by decide +kernel
theorem dL_valueOf_4 : decode cL_valueOf 4 = .ok (.invokevirtual 69, 3) := by decide +kernel
theorem dL_valueOf_7 : decode cL_valueOf 7 = .ok (.i2l, 1) := by decide +kernel
theorem dL_valueOf_8 : decode cL_valueOf 8 = .ok (.lastore, 1) := by decide +kernel
theorem dL_valueOf_9 : decode cL_valueOf 9 = .ok (.goto 6, 3) := by decide +kernel
theorem dL_valueOf_12 : decode cL_valueOf 12 = .ok (.astore_n 3, 1) := by decide +kernel
theorem dL_valueOf_13 : decode cL_valueOf 13 = .ok (.iconst 1, 1) := by decide +kernel
theorem dL_valueOf_14 : decode cL_valueOf 14 = .ok (.ireturn, 1) := by decide +kernel
theorem dL_valueOf_15 : decode cL_valueOf 15 = .ok (.iconst 0, 1) := by decide +kernel
theorem dL_valueOf_16 : decode cL_valueOf 16 = .ok (.ireturn, 1) := by decide +kernel
theorem dL_distanceOf_0 : decode cL_distanceOf 0 = .ok (.aload_n 2, 1) := by decide +kernel
theorem dL_distanceOf_1 : decode cL_distanceOf 1 = .ok (.iconst 0, 1) := by decide +kernel
theorem dL_distanceOf_2 : decode cL_distanceOf 2 = .ok (.aload_n 0, 1) := by decide +kernel
theorem dL_distanceOf_3 : decode cL_distanceOf 3 = .ok (.iload_n 1, 1) := by decide +kernel
theorem dL_distanceOf_4 : decode cL_distanceOf 4 = .ok (.invokevirtual 72, 3) := by decide +kernel
theorem dL_distanceOf_7 : decode cL_distanceOf 7 = .ok (.i2l, 1) := by decide +kernel
theorem dL_distanceOf_8 : decode cL_distanceOf 8 = .ok (.lastore, 1) := by decide +kernel
theorem dL_distanceOf_9 : decode cL_distanceOf 9 = .ok (.goto 6, 3) := by decide +kernel
theorem dL_distanceOf_12 : decode cL_distanceOf 12 = .ok (.astore_n 3, 1) := by decide +kernel
theorem dL_distanceOf_13 : decode cL_distanceOf 13 = .ok (.iconst 1, 1) := by decide +kernel
theorem dL_distanceOf_14 : decode cL_distanceOf 14 = .ok (.ireturn, 1) := by decide +kernel
theorem dL_distanceOf_15 : decode cL_distanceOf 15 = .ok (.iconst 0, 1) := by decide +kernel
theorem dL_distanceOf_16 : decode cL_distanceOf 16 = .ok (.ireturn, 1) := by decide +kernel
theorem dL_looksFor_0 : decode cL_looksFor 0 = .ok (.aload_n 2, 1) := by decide +kernel
theorem dL_looksFor_1 : decode cL_looksFor 1 = .ok (.iconst 0, 1) := by decide +kernel
theorem dL_looksFor_2 : decode cL_looksFor 2 = .ok (.aload_n 0, 1) := by decide +kernel
theorem dL_looksFor_3 : decode cL_looksFor 3 = .ok (.iload_n 1, 1) := by decide +kernel
theorem dL_looksFor_4 : decode cL_looksFor 4 = .ok (.invokevirtual 75, 3) := by decide +kernel
theorem dL_looksFor_7 : decode cL_looksFor 7 = .ok (.i2l, 1) := by decide +kernel
theorem dL_looksFor_8 : decode cL_looksFor 8 = .ok (.lastore, 1) := by decide +kernel
theorem dL_looksFor_9 : decode cL_looksFor 9 = .ok (.goto 6, 3) := by decide +kernel
theorem dL_looksFor_12 : decode cL_looksFor 12 = .ok (.astore_n 3, 1) := by decide +kernel
theorem dL_looksFor_13 : decode cL_looksFor 13 = .ok (.iconst 1, 1) := by decide +kernel
theorem dL_looksFor_14 : decode cL_looksFor 14 = .ok (.ireturn, 1) := by decide +kernel
theorem dL_looksFor_15 : decode cL_looksFor 15 = .ok (.iconst 0, 1) := by decide +kernel
theorem dL_looksFor_16 : decode cL_looksFor 16 = .ok (.ireturn, 1) := by decide +kernel
theorem dL_rank_0 : decode cL_rank 0 = .ok (.aload_n 2, 1) := by decide +kernel
theorem dL_rank_1 : decode cL_rank 1 = .ok (.iconst 0, 1) := by decide +kernel
theorem dL_rank_2 : decode cL_rank 2 = .ok (.aload_n 0, 1) := by decide +kernel
theorem dL_rank_3 : decode cL_rank 3 = .ok (.iload_n 1, 1) := by decide +kernel
theorem dL_rank_4 : decode cL_rank 4 = .ok (.invokevirtual 78, 3) := by decide +kernel
theorem dL_rank_7 : decode cL_rank 7 = .ok (.i2l, 1) := by decide +kernel
theorem dL_rank_8 : decode cL_rank 8 = .ok (.lastore, 1) := by decide +kernel
theorem dL_rank_9 : decode cL_rank 9 = .ok (.goto 6, 3) := by decide +kernel
theorem dL_rank_12 : decode cL_rank 12 = .ok (.astore_n 3, 1) := by decide +kernel
theorem dL_rank_13 : decode cL_rank 13 = .ok (.iconst 1, 1) := by decide +kernel
theorem dL_rank_14 : decode cL_rank 14 = .ok (.ireturn, 1) := by decide +kernel
theorem dL_rank_15 : decode cL_rank 15 = .ok (.iconst 0, 1) := by decide +kernel
theorem dL_rank_16 : decode cL_rank 16 = .ok (.ireturn, 1) := by decide +kernel
theorem dL_whyNoAdd_0 : decode cL_whyNoAdd 0 = .ok (.aload_n 2, 1) := by decide +kernel
theorem dL_whyNoAdd_1 : decode cL_whyNoAdd 1 = .ok (.iconst 0, 1) := by decide +kernel
theorem dL_whyNoAdd_2 : decode cL_whyNoAdd 2 = .ok (.aload_n 0, 1) := by decide +kernel
theorem dL_whyNoAdd_3 : decode cL_whyNoAdd 3 = .ok (.iload_n 1, 1) := by decide +kernel
theorem dL_whyNoAdd_4 : decode cL_whyNoAdd 4 = .ok (.invokevirtual 81, 3) := by decide +kernel
theorem dL_whyNoAdd_7 : decode cL_whyNoAdd 7 = .ok (.i2l, 1) := by decide +kernel
theorem dL_whyNoAdd_8 : decode cL_whyNoAdd 8 = .ok (.lastore, 1) := by decide +kernel
theorem dL_whyNoAdd_9 : decode cL_whyNoAdd 9 = .ok (.goto 6, 3) := by decide +kernel
theorem dL_whyNoAdd_12 : decode cL_whyNoAdd 12 = .ok (.astore_n 3, 1) := by decide +kernel
theorem dL_whyNoAdd_13 : decode cL_whyNoAdd 13 = .ok (.iconst 1, 1) := by decide +kernel
theorem dL_whyNoAdd_14 : decode cL_whyNoAdd 14 = .ok (.ireturn, 1) := by decide +kernel
theorem dL_whyNoAdd_15 : decode cL_whyNoAdd 15 = .ok (.iconst 0, 1) := by decide +kernel
theorem dL_whyNoAdd_16 : decode cL_whyNoAdd 16 = .ok (.ireturn, 1) := by decide +kernel
theorem dL_placeFor_0 : decode cL_placeFor 0 = .ok (.aload_n 2, 1) := by decide +kernel
theorem dL_placeFor_1 : decode cL_placeFor 1 = .ok (.iconst 0, 1) := by decide +kernel
theorem dL_placeFor_2 : decode cL_placeFor 2 = .ok (.aload_n 0, 1) := by decide +kernel
theorem dL_placeFor_3 : decode cL_placeFor 3 = .ok (.iload_n 1, 1) := by decide +kernel
theorem dL_placeFor_4 : decode cL_placeFor 4 = .ok (.invokevirtual 84, 3) := by decide +kernel
theorem dL_placeFor_7 : decode cL_placeFor 7 = .ok (.i2l, 1) := by decide +kernel
theorem dL_placeFor_8 : decode cL_placeFor 8 = .ok (.lastore, 1) := by decide +kernel
theorem dL_placeFor_9 : decode cL_placeFor 9 = .ok (.goto 6, 3) := by decide +kernel
theorem dL_placeFor_12 : decode cL_placeFor 12 = .ok (.astore_n 3, 1) := by decide +kernel
theorem dL_placeFor_13 : decode cL_placeFor 13 = .ok (.iconst 1, 1) := by decide +kernel
theorem dL_placeFor_14 : decode cL_placeFor 14 = .ok (.ireturn, 1) := by decide +kernel
theorem dL_placeFor_15 : decode cL_placeFor 15 = .ok (.iconst 0, 1) := by decide +kernel
theorem dL_placeFor_16 : decode cL_placeFor 16 = .ok (.ireturn, 1) := by decide +kernel
theorem dL_movesFor_0 : decode cL_movesFor 0 = .ok (.aload_n 2, 1) := by decide +kernel
theorem dL_movesFor_1 : decode cL_movesFor 1 = .ok (.iconst 0, 1) := by decide +kernel
theorem dL_movesFor_2 : decode cL_movesFor 2 = .ok (.aload_n 0, 1) := by decide +kernel
theorem dL_movesFor_3 : decode cL_movesFor 3 = .ok (.iload_n 1, 1) := by decide +kernel
theorem dL_movesFor_4 : decode cL_movesFor 4 = .ok (.invokevirtual 87, 3) := by decide +kernel
theorem dL_movesFor_7 : decode cL_movesFor 7 = .ok (.i2l, 1) := by decide +kernel
theorem dL_movesFor_8 : decode cL_movesFor 8 = .ok (.lastore, 1) := by decide +kernel
theorem dL_movesFor_9 : decode cL_movesFor 9 = .ok (.goto 6, 3) := by decide +kernel
theorem dL_movesFor_12 : decode cL_movesFor 12 = .ok (.astore_n 3, 1) := by decide +kernel
theorem dL_movesFor_13 : decode cL_movesFor 13 = .ok (.iconst 1, 1) := by decide +kernel
theorem dL_movesFor_14 : decode cL_movesFor 14 = .ok (.ireturn, 1) := by decide +kernel
theorem dL_movesFor_15 : decode cL_movesFor 15 = .ok (.iconst 0, 1) := by decide +kernel
theorem dL_movesFor_16 : decode cL_movesFor 16 = .ok (.ireturn, 1) := by decide +kernel
theorem dL_bucketsAfter_0 : decode cL_bucketsAfter 0 = .ok (.aload_n 2, 1) := by decide +kernel
theorem dL_bucketsAfter_1 : decode cL_bucketsAfter 1 = .ok (.iconst 0, 1) := by decide +kernel
theorem dL_bucketsAfter_2 : decode cL_bucketsAfter 2 = .ok (.aload_n 0, 1) := by decide +kernel
theorem dL_bucketsAfter_3 : decode cL_bucketsAfter 3 = .ok (.iload_n 1, 1) := by decide +kernel
theorem dL_bucketsAfter_4 : decode cL_bucketsAfter 4 = .ok (.invokevirtual 90, 3) := by decide +kernel
theorem dL_bucketsAfter_7 : decode cL_bucketsAfter 7 = .ok (.i2l, 1) := by decide +kernel
theorem dL_bucketsAfter_8 : decode cL_bucketsAfter 8 = .ok (.lastore, 1) := by decide +kernel
theorem dL_bucketsAfter_9 : decode cL_bucketsAfter 9 = .ok (.goto 6, 3) := by decide +kernel
theorem dL_bucketsAfter_12 : decode cL_bucketsAfter 12 = .ok (.astore_n 3, 1) := by decide +kernel
theorem dL_bucketsAfter_13 : decode cL_bucketsAfter 13 = .ok (.iconst 1, 1) := by decide +kernel
theorem dL_bucketsAfter_14 : decode cL_bucketsAfter 14 = .ok (.ireturn, 1) := by decide +kernel
theorem dL_bucketsAfter_15 : decode cL_bucketsAfter 15 = .ok (.iconst 0, 1) := by decide +kernel
theorem dL_bucketsAfter_16 : decode cL_bucketsAfter 16 = .ok (.ireturn, 1) := by decide +kernel
theorem dL_pullsFor_0 : decode cL_pullsFor 0 = .ok (.aload_n 2, 1) := by decide +kernel
theorem dL_pullsFor_1 : decode cL_pullsFor 1 = .ok (.iconst 0, 1) := by decide +kernel
theorem dL_pullsFor_2 : decode cL_pullsFor 2 = .ok (.aload_n 0, 1) := by decide +kernel
theorem dL_pullsFor_3 : decode cL_pullsFor 3 = .ok (.iload_n 1, 1) := by decide +kernel
theorem dL_pullsFor_4 : decode cL_pullsFor 4 = .ok (.invokevirtual 93, 3) := by decide +kernel
theorem dL_pullsFor_7 : decode cL_pullsFor 7 = .ok (.i2l, 1) := by decide +kernel
theorem dL_pullsFor_8 : decode cL_pullsFor 8 = .ok (.lastore, 1) := by decide +kernel
theorem dL_pullsFor_9 : decode cL_pullsFor 9 = .ok (.goto 6, 3) := by decide +kernel
theorem dL_pullsFor_12 : decode cL_pullsFor 12 = .ok (.astore_n 3, 1) := by decide +kernel
theorem dL_pullsFor_13 : decode cL_pullsFor 13 = .ok (.iconst 1, 1) := by decide +kernel
theorem dL_pullsFor_14 : decode cL_pullsFor 14 = .ok (.ireturn, 1) := by decide +kernel
theorem dL_pullsFor_15 : decode cL_pullsFor 15 = .ok (.iconst 0, 1) := by decide +kernel
theorem dL_pullsFor_16 : decode cL_pullsFor 16 = .ok (.ireturn, 1) := by decide +kernel
theorem dL_bucketsWith_0 : decode cL_bucketsWith 0 = .ok (.aload_n 2, 1) := by decide +kernel
theorem dL_bucketsWith_1 : decode cL_bucketsWith 1 = .ok (.iconst 0, 1) := by decide +kernel
theorem dL_bucketsWith_2 : decode cL_bucketsWith 2 = .ok (.aload_n 0, 1) := by decide +kernel
theorem dL_bucketsWith_3 : decode cL_bucketsWith 3 = .ok (.iload_n 1, 1) := by decide +kernel
theorem dL_bucketsWith_4 : decode cL_bucketsWith 4 = .ok (.invokevirtual 96, 3) := by decide +kernel
theorem dL_bucketsWith_7 : decode cL_bucketsWith 7 = .ok (.i2l, 1) := by decide +kernel
theorem dL_bucketsWith_8 : decode cL_bucketsWith 8 = .ok (.lastore, 1) := by decide +kernel
theorem dL_bucketsWith_9 : decode cL_bucketsWith 9 = .ok (.goto 6, 3) := by decide +kernel
theorem dL_bucketsWith_12 : decode cL_bucketsWith 12 = .ok (.astore_n 3, 1) := by decide +kernel
theorem dL_bucketsWith_13 : decode cL_bucketsWith 13 = .ok (.iconst 1, 1) := by decide +kernel
theorem dL_bucketsWith_14 : decode cL_bucketsWith 14 = .ok (.ireturn, 1) := by decide +kernel
theorem dL_bucketsWith_15 : decode cL_bucketsWith 15 = .ok (.iconst 0, 1) := by decide +kernel
theorem dL_bucketsWith_16 : decode cL_bucketsWith 16 = .ok (.ireturn, 1) := by decide +kernel
theorem dL_bestMultiplier_0 : decode cL_bestMultiplier 0 = .ok (.aload_n 2, 1) := by decide +kernel
theorem dL_bestMultiplier_1 : decode cL_bestMultiplier 1 = .ok (.iconst 0, 1) := by decide +kernel
theorem dL_bestMultiplier_2 : decode cL_bestMultiplier 2 = .ok (.aload_n 0, 1) := by decide +kernel
theorem dL_bestMultiplier_3 : decode cL_bestMultiplier 3 = .ok (.iload_n 1, 1) := by decide +kernel
theorem dL_bestMultiplier_4 : decode cL_bestMultiplier 4 = .ok (.invokevirtual 99, 3) := by decide +kernel
theorem dL_bestMultiplier_7 : decode cL_bestMultiplier 7 = .ok (.i2l, 1) := by decide +kernel
theorem dL_bestMultiplier_8 : decode cL_bestMultiplier 8 = .ok (.lastore, 1) := by decide +kernel
theorem dL_bestMultiplier_9 : decode cL_bestMultiplier 9 = .ok (.goto 6, 3) := by decide +kernel
theorem dL_bestMultiplier_12 : decode cL_bestMultiplier 12 = .ok (.astore_n 3, 1) := by decide +kernel
theorem dL_bestMultiplier_13 : decode cL_bestMultiplier 13 = .ok (.iconst 1, 1) := by decide +kernel
theorem dL_bestMultiplier_14 : decode cL_bestMultiplier 14 = .ok (.ireturn, 1) := by decide +kernel
theorem dL_bestMultiplier_15 : decode cL_bestMultiplier 15 = .ok (.iconst 0, 1) := by decide +kernel
theorem dL_bestMultiplier_16 : decode cL_bestMultiplier 16 = .ok (.ireturn, 1) := by decide +kernel
theorem dL_law_0 : decode cL_law 0 = .ok (.new 8, 3) := by decide +kernel
theorem dL_law_3 : decode cL_law 3 = .ok (.dup, 1) := by decide +kernel
theorem dL_law_4 : decode cL_law 4 = .ok (.invokespecial 102, 3) := by decide +kernel
theorem dL_law_7 : decode cL_law 7 = .ok (.astore_n 1, 1) := by decide +kernel
theorem dL_law_8 : decode cL_law 8 = .ok (.new 103, 3) := by decide +kernel
theorem dL_law_11 : decode cL_law 11 = .ok (.dup, 1) := by decide +kernel
theorem dL_law_12 : decode cL_law 12 = .ok (.invokespecial 105, 3) := by decide +kernel
theorem dL_law_15 : decode cL_law 15 = .ok (.astore_n 2, 1) := by decide +kernel
theorem dL_law_16 : decode cL_law 16 = .ok (.iconst 1, 1) := by decide +kernel
theorem dL_law_17 : decode cL_law 17 = .ok (.newarray .long, 2) := by decide +kernel
theorem dL_law_19 : decode cL_law 19 = .ok (.astore_n 3, 1) := by decide +kernel
theorem dL_law_20 : decode cL_law 20 = .ok (.iconst 0, 1) := by decide +kernel
theorem dL_law_21 : decode cL_law 21 = .ok (.istore 4, 2) := by decide +kernel
theorem dL_law_23 : decode cL_law 23 = .ok (.iload 4, 2) := by decide +kernel
theorem dL_law_25 : decode cL_law 25 = .ok (.aload_n 0, 1) := by decide +kernel
theorem dL_law_26 : decode cL_law 26 = .ok (.arraylength, 1) := by decide +kernel
theorem dL_law_27 : decode cL_law 27 = .ok (.bipush 6, 2) := by decide +kernel
theorem dL_law_29 : decode cL_law 29 = .ok (.isub, 1) := by decide +kernel
theorem dL_law_30 : decode cL_law 30 = .ok (.if_icmp .gt 2310, 3) := by decide +kernel
theorem dL_law_33 : decode cL_law 33 = .ok (.aload_n 0, 1) := by decide +kernel
theorem dL_law_34 : decode cL_law 34 = .ok (.iload 4, 2) := by decide +kernel
theorem dL_law_36 : decode cL_law 36 = .ok (.iaload, 1) := by decide +kernel
theorem dL_law_37 : decode cL_law 37 = .ok (.bipush 63, 2) := by decide +kernel
theorem dL_law_39 : decode cL_law 39 = .ok (.iand, 1) := by decide +kernel
theorem dL_law_40 : decode cL_law 40 = .ok (.tableswitch 2294 0 54 #[236, 309, 365, 378, 446, 514, 594, 650, 706, 762, 803, 847, 860, 873, 886, 899, 943, 956, 969, 982, 995, 1008, 1021, 1034, 1090, 1146, 1202, 1258, 1314, 1327, 1340, 1396, 1452, 1508, 1564, 1620, 1633, 1646, 1702, 1758, 1814, 1870, 1926, 1982, 2038, 2094, 2107, 2120, 2133, 2146, 2159, 2200, 2243, 2256, 2269], 236) := by decide +kernel
theorem dL_law_276 : decode cL_law 276 = .ok (.aload_n 1, 1) := by decide +kernel
theorem dL_law_277 : decode cL_law 277 = .ok (.aload_n 0, 1) := by decide +kernel
theorem dL_law_278 : decode cL_law 278 = .ok (.iload 4, 2) := by decide +kernel
theorem dL_law_280 : decode cL_law 280 = .ok (.iconst 1, 1) := by decide +kernel
theorem dL_law_281 : decode cL_law 281 = .ok (.iadd, 1) := by decide +kernel
theorem dL_law_282 : decode cL_law 282 = .ok (.iaload, 1) := by decide +kernel
theorem dL_law_283 : decode cL_law 283 = .ok (.aload_n 0, 1) := by decide +kernel
theorem dL_law_284 : decode cL_law 284 = .ok (.iload 4, 2) := by decide +kernel
theorem dL_law_286 : decode cL_law 286 = .ok (.iconst 2, 1) := by decide +kernel
theorem dL_law_287 : decode cL_law 287 = .ok (.iadd, 1) := by decide +kernel
theorem dL_law_288 : decode cL_law 288 = .ok (.iaload, 1) := by decide +kernel
theorem dL_law_289 : decode cL_law 289 = .ok (.aload_n 0, 1) := by decide +kernel
theorem dL_law_290 : decode cL_law 290 = .ok (.iload 4, 2) := by decide +kernel
theorem dL_law_292 : decode cL_law 292 = .ok (.iconst 3, 1) := by decide +kernel
theorem dL_law_293 : decode cL_law 293 = .ok (.iadd, 1) := by decide +kernel
theorem dL_law_294 : decode cL_law 294 = .ok (.iaload, 1) := by decide +kernel
theorem dL_law_295 : decode cL_law 295 = .ok (.aload_n 0, 1) := by decide +kernel
theorem dL_law_296 : decode cL_law 296 = .ok (.iload 4, 2) := by decide +kernel
theorem dL_law_298 : decode cL_law 298 = .ok (.iconst 4, 1) := by decide +kernel
theorem dL_law_299 : decode cL_law 299 = .ok (.iadd, 1) := by decide +kernel
theorem dL_law_300 : decode cL_law 300 = .ok (.iaload, 1) := by decide +kernel
theorem dL_law_301 : decode cL_law 301 = .ok (.aload_n 0, 1) := by decide +kernel
theorem dL_law_302 : decode cL_law 302 = .ok (.iload 4, 2) := by decide +kernel
theorem dL_law_304 : decode cL_law 304 = .ok (.iconst 5, 1) := by decide +kernel
theorem dL_law_305 : decode cL_law 305 = .ok (.iadd, 1) := by decide +kernel
theorem dL_law_306 : decode cL_law 306 = .ok (.iaload, 1) := by decide +kernel
theorem dL_law_307 : decode cL_law 307 = .ok (.invokevirtual 106, 3) := by decide +kernel
theorem dL_law_310 : decode cL_law 310 = .ok (.aload_n 2, 1) := by decide +kernel
theorem dL_law_311 : decode cL_law 311 = .ok (.aload_n 0, 1) := by decide +kernel
theorem dL_law_312 : decode cL_law 312 = .ok (.iload 4, 2) := by decide +kernel
theorem dL_law_314 : decode cL_law 314 = .ok (.iconst 1, 1) := by decide +kernel
theorem dL_law_315 : decode cL_law 315 = .ok (.iadd, 1) := by decide +kernel
theorem dL_law_316 : decode cL_law 316 = .ok (.iaload, 1) := by decide +kernel
theorem dL_law_317 : decode cL_law 317 = .ok (.aload_n 0, 1) := by decide +kernel
theorem dL_law_318 : decode cL_law 318 = .ok (.iload 4, 2) := by decide +kernel
theorem dL_law_320 : decode cL_law 320 = .ok (.iconst 2, 1) := by decide +kernel
theorem dL_law_321 : decode cL_law 321 = .ok (.iadd, 1) := by decide +kernel
theorem dL_law_322 : decode cL_law 322 = .ok (.iaload, 1) := by decide +kernel
theorem dL_law_323 : decode cL_law 323 = .ok (.aload_n 0, 1) := by decide +kernel
theorem dL_law_324 : decode cL_law 324 = .ok (.iload 4, 2) := by decide +kernel
theorem dL_law_326 : decode cL_law 326 = .ok (.iconst 3, 1) := by decide +kernel
theorem dL_law_327 : decode cL_law 327 = .ok (.iadd, 1) := by decide +kernel
theorem dL_law_328 : decode cL_law 328 = .ok (.iaload, 1) := by decide +kernel
theorem dL_law_329 : decode cL_law 329 = .ok (.aload_n 0, 1) := by decide +kernel
theorem dL_law_330 : decode cL_law 330 = .ok (.iload 4, 2) := by decide +kernel
theorem dL_law_332 : decode cL_law 332 = .ok (.iconst 4, 1) := by decide +kernel
theorem dL_law_333 : decode cL_law 333 = .ok (.iadd, 1) := by decide +kernel
theorem dL_law_334 : decode cL_law 334 = .ok (.iaload, 1) := by decide +kernel
theorem dL_law_335 : decode cL_law 335 = .ok (.aload_n 0, 1) := by decide +kernel
theorem dL_law_336 : decode cL_law 336 = .ok (.iload 4, 2) := by decide +kernel
theorem dL_law_338 : decode cL_law 338 = .ok (.iconst 5, 1) := by decide +kernel
theorem dL_law_339 : decode cL_law 339 = .ok (.iadd, 1) := by decide +kernel
theorem dL_law_340 : decode cL_law 340 = .ok (.iaload, 1) := by decide +kernel
theorem dL_law_341 : decode cL_law 341 = .ok (.invokevirtual 110, 3) := by decide +kernel
theorem dL_law_344 : decode cL_law 344 = .ok (.if_icmp .eq 1990, 3) := by decide +kernel
theorem dL_law_347 : decode cL_law 347 = .ok (.iconst 0, 1) := by decide +kernel
theorem dL_law_348 : decode cL_law 348 = .ok (.ireturn, 1) := by decide +kernel
theorem dL_law_349 : decode cL_law 349 = .ok (.aload_n 1, 1) := by decide +kernel
theorem dL_law_350 : decode cL_law 350 = .ok (.aload_n 0, 1) := by decide +kernel
theorem dL_law_351 : decode cL_law 351 = .ok (.iload 4, 2) := by decide +kernel
theorem dL_law_353 : decode cL_law 353 = .ok (.iconst 1, 1) := by decide +kernel
theorem dL_law_354 : decode cL_law 354 = .ok (.iadd, 1) := by decide +kernel
theorem dL_law_355 : decode cL_law 355 = .ok (.iaload, 1) := by decide +kernel
theorem dL_law_356 : decode cL_law 356 = .ok (.aload_n 3, 1) := by decide +kernel
theorem dL_law_357 : decode cL_law 357 = .ok (.invokestatic 111, 3) := by decide +kernel
theorem dL_law_360 : decode cL_law 360 = .ok (.istore 5, 2) := by decide +kernel
theorem dL_law_362 : decode cL_law 362 = .ok (.aload_n 2, 1) := by decide +kernel
theorem dL_law_363 : decode cL_law 363 = .ok (.aload_n 0, 1) := by decide +kernel
theorem dL_law_364 : decode cL_law 364 = .ok (.iload 4, 2) := by decide +kernel
theorem dL_law_366 : decode cL_law 366 = .ok (.iconst 1, 1) := by decide +kernel
theorem dL_law_367 : decode cL_law 367 = .ok (.iadd, 1) := by decide +kernel
theorem dL_law_368 : decode cL_law 368 = .ok (.iaload, 1) := by decide +kernel
theorem dL_law_369 : decode cL_law 369 = .ok (.invokevirtual 116, 3) := by decide +kernel
theorem dL_law_372 : decode cL_law 372 = .ok (.istore 6, 2) := by decide +kernel
theorem dL_law_374 : decode cL_law 374 = .ok (.aload_n 2, 1) := by decide +kernel
theorem dL_law_375 : decode cL_law 375 = .ok (.invokevirtual 117, 3) := by decide +kernel
theorem dL_law_378 : decode cL_law 378 = .ok (.iload 5, 2) := by decide +kernel
theorem dL_law_380 : decode cL_law 380 = .ok (.if_icmp .eq 5, 3) := by decide +kernel
theorem dL_law_383 : decode cL_law 383 = .ok (.iconst 0, 1) := by decide +kernel
theorem dL_law_384 : decode cL_law 384 = .ok (.ireturn, 1) := by decide +kernel
theorem dL_law_385 : decode cL_law 385 = .ok (.iload 5, 2) := by decide +kernel
theorem dL_law_387 : decode cL_law 387 = .ok (.ifCond .ne 15, 3) := by decide +kernel
theorem dL_law_390 : decode cL_law 390 = .ok (.aload_n 3, 1) := by decide +kernel
theorem dL_law_391 : decode cL_law 391 = .ok (.iconst 0, 1) := by decide +kernel
theorem dL_law_392 : decode cL_law 392 = .ok (.laload, 1) := by decide +kernel
theorem dL_law_393 : decode cL_law 393 = .ok (.iload 6, 2) := by decide +kernel
theorem dL_law_395 : decode cL_law 395 = .ok (.i2l, 1) := by decide +kernel
theorem dL_law_396 : decode cL_law 396 = .ok (.lcmp, 1) := by decide +kernel
theorem dL_law_397 : decode cL_law 397 = .ok (.ifCond .eq 5, 3) := by decide +kernel
theorem dL_law_400 : decode cL_law 400 = .ok (.iconst 0, 1) := by decide +kernel
theorem dL_law_401 : decode cL_law 401 = .ok (.ireturn, 1) := by decide +kernel
theorem dL_law_402 : decode cL_law 402 = .ok (.goto 1932, 3) := by decide +kernel
theorem dL_law_405 : decode cL_law 405 = .ok (.aload_n 1, 1) := by decide +kernel
theorem dL_law_406 : decode cL_law 406 = .ok (.invokevirtual 120, 3) := by decide +kernel
theorem dL_law_409 : decode cL_law 409 = .ok (.aload_n 2, 1) := by decide +kernel
theorem dL_law_410 : decode cL_law 410 = .ok (.invokevirtual 123, 3) := by decide +kernel
theorem dL_law_413 : decode cL_law 413 = .ok (.if_icmp .eq 1921, 3) := by decide +kernel
theorem dL_law_416 : decode cL_law 416 = .ok (.iconst 0, 1) := by decide +kernel
theorem dL_law_417 : decode cL_law 417 = .ok (.ireturn, 1) := by decide +kernel
theorem dL_law_418 : decode cL_law 418 = .ok (.aload_n 1, 1) := by decide +kernel
theorem dL_law_419 : decode cL_law 419 = .ok (.aload_n 0, 1) := by decide +kernel
theorem dL_law_420 : decode cL_law 420 = .ok (.iload 4, 2) := by decide +kernel
theorem dL_law_422 : decode cL_law 422 = .ok (.iconst 1, 1) := by decide +kernel
theorem dL_law_423 : decode cL_law 423 = .ok (.iadd, 1) := by decide +kernel
theorem dL_law_424 : decode cL_law 424 = .ok (.iaload, 1) := by decide +kernel
theorem dL_law_425 : decode cL_law 425 = .ok (.aload_n 0, 1) := by decide +kernel
theorem dL_law_426 : decode cL_law 426 = .ok (.iload 4, 2) := by decide +kernel
theorem dL_law_428 : decode cL_law 428 = .ok (.iconst 2, 1) := by decide +kernel
theorem dL_law_429 : decode cL_law 429 = .ok (.iadd, 1) := by decide +kernel
theorem dL_law_430 : decode cL_law 430 = .ok (.iaload, 1) := by decide +kernel
theorem dL_law_431 : decode cL_law 431 = .ok (.aload_n 3, 1) := by decide +kernel
theorem dL_law_432 : decode cL_law 432 = .ok (.invokestatic 124, 3) := by decide +kernel
theorem dL_law_435 : decode cL_law 435 = .ok (.istore 5, 2) := by decide +kernel
theorem dL_law_437 : decode cL_law 437 = .ok (.aload_n 2, 1) := by decide +kernel
theorem dL_law_438 : decode cL_law 438 = .ok (.aload_n 0, 1) := by decide +kernel
theorem dL_law_439 : decode cL_law 439 = .ok (.iload 4, 2) := by decide +kernel
theorem dL_law_441 : decode cL_law 441 = .ok (.iconst 1, 1) := by decide +kernel
theorem dL_law_442 : decode cL_law 442 = .ok (.iadd, 1) := by decide +kernel
theorem dL_law_443 : decode cL_law 443 = .ok (.iaload, 1) := by decide +kernel
theorem dL_law_444 : decode cL_law 444 = .ok (.aload_n 0, 1) := by decide +kernel
theorem dL_law_445 : decode cL_law 445 = .ok (.iload 4, 2) := by decide +kernel
theorem dL_law_447 : decode cL_law 447 = .ok (.iconst 2, 1) := by decide +kernel
theorem dL_law_448 : decode cL_law 448 = .ok (.iadd, 1) := by decide +kernel
theorem dL_law_449 : decode cL_law 449 = .ok (.iaload, 1) := by decide +kernel
theorem dL_law_450 : decode cL_law 450 = .ok (.invokevirtual 127, 3) := by decide +kernel
theorem dL_law_453 : decode cL_law 453 = .ok (.istore 6, 2) := by decide +kernel
theorem dL_law_455 : decode cL_law 455 = .ok (.aload_n 2, 1) := by decide +kernel
theorem dL_law_456 : decode cL_law 456 = .ok (.invokevirtual 117, 3) := by decide +kernel
theorem dL_law_459 : decode cL_law 459 = .ok (.iload 5, 2) := by decide +kernel
theorem dL_law_461 : decode cL_law 461 = .ok (.if_icmp .eq 5, 3) := by decide +kernel
theorem dL_law_464 : decode cL_law 464 = .ok (.iconst 0, 1) := by decide +kernel
theorem dL_law_465 : decode cL_law 465 = .ok (.ireturn, 1) := by decide +kernel
theorem dL_law_466 : decode cL_law 466 = .ok (.iload 5, 2) := by decide +kernel
theorem dL_law_468 : decode cL_law 468 = .ok (.ifCond .ne 15, 3) := by decide +kernel
theorem dL_law_471 : decode cL_law 471 = .ok (.aload_n 3, 1) := by decide +kernel
theorem dL_law_472 : decode cL_law 472 = .ok (.iconst 0, 1) := by decide +kernel
theorem dL_law_473 : decode cL_law 473 = .ok (.laload, 1) := by decide +kernel
theorem dL_law_474 : decode cL_law 474 = .ok (.iload 6, 2) := by decide +kernel
theorem dL_law_476 : decode cL_law 476 = .ok (.i2l, 1) := by decide +kernel
theorem dL_law_477 : decode cL_law 477 = .ok (.lcmp, 1) := by decide +kernel
theorem dL_law_478 : decode cL_law 478 = .ok (.ifCond .eq 5, 3) := by decide +kernel
theorem dL_law_481 : decode cL_law 481 = .ok (.iconst 0, 1) := by decide +kernel
theorem dL_law_482 : decode cL_law 482 = .ok (.ireturn, 1) := by decide +kernel
theorem dL_law_483 : decode cL_law 483 = .ok (.goto 1851, 3) := by decide +kernel
theorem dL_law_486 : decode cL_law 486 = .ok (.aload_n 1, 1) := by decide +kernel
theorem dL_law_487 : decode cL_law 487 = .ok (.aload_n 0, 1) := by decide +kernel
theorem dL_law_488 : decode cL_law 488 = .ok (.iload 4, 2) := by decide +kernel
theorem dL_law_490 : decode cL_law 490 = .ok (.iconst 1, 1) := by decide +kernel
theorem dL_law_491 : decode cL_law 491 = .ok (.iadd, 1) := by decide +kernel
theorem dL_law_492 : decode cL_law 492 = .ok (.iaload, 1) := by decide +kernel
theorem dL_law_493 : decode cL_law 493 = .ok (.aload_n 0, 1) := by decide +kernel
theorem dL_law_494 : decode cL_law 494 = .ok (.iload 4, 2) := by decide +kernel
theorem dL_law_496 : decode cL_law 496 = .ok (.iconst 2, 1) := by decide +kernel
theorem dL_law_497 : decode cL_law 497 = .ok (.iadd, 1) := by decide +kernel
theorem dL_law_498 : decode cL_law 498 = .ok (.iaload, 1) := by decide +kernel
theorem dL_law_499 : decode cL_law 499 = .ok (.aload_n 3, 1) := by decide +kernel
theorem dL_law_500 : decode cL_law 500 = .ok (.invokestatic 128, 3) := by decide +kernel
theorem dL_law_503 : decode cL_law 503 = .ok (.istore 5, 2) := by decide +kernel
theorem dL_law_505 : decode cL_law 505 = .ok (.aload_n 2, 1) := by decide +kernel
theorem dL_law_506 : decode cL_law 506 = .ok (.aload_n 0, 1) := by decide +kernel
theorem dL_law_507 : decode cL_law 507 = .ok (.iload 4, 2) := by decide +kernel
theorem dL_law_509 : decode cL_law 509 = .ok (.iconst 1, 1) := by decide +kernel
theorem dL_law_510 : decode cL_law 510 = .ok (.iadd, 1) := by decide +kernel
theorem dL_law_511 : decode cL_law 511 = .ok (.iaload, 1) := by decide +kernel
theorem dL_law_512 : decode cL_law 512 = .ok (.aload_n 0, 1) := by decide +kernel
theorem dL_law_513 : decode cL_law 513 = .ok (.iload 4, 2) := by decide +kernel
theorem dL_law_515 : decode cL_law 515 = .ok (.iconst 2, 1) := by decide +kernel
theorem dL_law_516 : decode cL_law 516 = .ok (.iadd, 1) := by decide +kernel
theorem dL_law_517 : decode cL_law 517 = .ok (.iaload, 1) := by decide +kernel
theorem dL_law_518 : decode cL_law 518 = .ok (.invokevirtual 130, 3) := by decide +kernel
theorem dL_law_521 : decode cL_law 521 = .ok (.istore 6, 2) := by decide +kernel
theorem dL_law_523 : decode cL_law 523 = .ok (.aload_n 2, 1) := by decide +kernel
theorem dL_law_524 : decode cL_law 524 = .ok (.invokevirtual 117, 3) := by decide +kernel
theorem dL_law_527 : decode cL_law 527 = .ok (.iload 5, 2) := by decide +kernel
theorem dL_law_529 : decode cL_law 529 = .ok (.if_icmp .eq 5, 3) := by decide +kernel
theorem dL_law_532 : decode cL_law 532 = .ok (.iconst 0, 1) := by decide +kernel
theorem dL_law_533 : decode cL_law 533 = .ok (.ireturn, 1) := by decide +kernel
theorem dL_law_534 : decode cL_law 534 = .ok (.iload 5, 2) := by decide +kernel
theorem dL_law_536 : decode cL_law 536 = .ok (.ifCond .ne 15, 3) := by decide +kernel
theorem dL_law_539 : decode cL_law 539 = .ok (.aload_n 3, 1) := by decide +kernel
theorem dL_law_540 : decode cL_law 540 = .ok (.iconst 0, 1) := by decide +kernel
theorem dL_law_541 : decode cL_law 541 = .ok (.laload, 1) := by decide +kernel
theorem dL_law_542 : decode cL_law 542 = .ok (.iload 6, 2) := by decide +kernel
theorem dL_law_544 : decode cL_law 544 = .ok (.i2l, 1) := by decide +kernel
theorem dL_law_545 : decode cL_law 545 = .ok (.lcmp, 1) := by decide +kernel
theorem dL_law_546 : decode cL_law 546 = .ok (.ifCond .eq 5, 3) := by decide +kernel
theorem dL_law_549 : decode cL_law 549 = .ok (.iconst 0, 1) := by decide +kernel
theorem dL_law_550 : decode cL_law 550 = .ok (.ireturn, 1) := by decide +kernel
theorem dL_law_551 : decode cL_law 551 = .ok (.goto 1783, 3) := by decide +kernel
theorem dL_law_554 : decode cL_law 554 = .ok (.aload_n 1, 1) := by decide +kernel
theorem dL_law_555 : decode cL_law 555 = .ok (.aload_n 0, 1) := by decide +kernel
theorem dL_law_556 : decode cL_law 556 = .ok (.iload 4, 2) := by decide +kernel
theorem dL_law_558 : decode cL_law 558 = .ok (.iconst 1, 1) := by decide +kernel
theorem dL_law_559 : decode cL_law 559 = .ok (.iadd, 1) := by decide +kernel
theorem dL_law_560 : decode cL_law 560 = .ok (.iaload, 1) := by decide +kernel
theorem dL_law_561 : decode cL_law 561 = .ok (.aload_n 0, 1) := by decide +kernel
theorem dL_law_562 : decode cL_law 562 = .ok (.iload 4, 2) := by decide +kernel
theorem dL_law_564 : decode cL_law 564 = .ok (.iconst 2, 1) := by decide +kernel
theorem dL_law_565 : decode cL_law 565 = .ok (.iadd, 1) := by decide +kernel
theorem dL_law_566 : decode cL_law 566 = .ok (.iaload, 1) := by decide +kernel
theorem dL_law_567 : decode cL_law 567 = .ok (.aload_n 0, 1) := by decide +kernel
theorem dL_law_568 : decode cL_law 568 = .ok (.iload 4, 2) := by decide +kernel
theorem dL_law_570 : decode cL_law 570 = .ok (.iconst 3, 1) := by decide +kernel
theorem dL_law_571 : decode cL_law 571 = .ok (.iadd, 1) := by decide +kernel
theorem dL_law_572 : decode cL_law 572 = .ok (.iaload, 1) := by decide +kernel
theorem dL_law_573 : decode cL_law 573 = .ok (.aload_n 3, 1) := by decide +kernel
theorem dL_law_574 : decode cL_law 574 = .ok (.invokestatic 131, 3) := by decide +kernel
theorem dL_law_577 : decode cL_law 577 = .ok (.istore 5, 2) := by decide +kernel
theorem dL_law_579 : decode cL_law 579 = .ok (.aload_n 2, 1) := by decide +kernel
theorem dL_law_580 : decode cL_law 580 = .ok (.aload_n 0, 1) := by decide +kernel
theorem dL_law_581 : decode cL_law 581 = .ok (.iload 4, 2) := by decide +kernel
theorem dL_law_583 : decode cL_law 583 = .ok (.iconst 1, 1) := by decide +kernel
theorem dL_law_584 : decode cL_law 584 = .ok (.iadd, 1) := by decide +kernel
theorem dL_law_585 : decode cL_law 585 = .ok (.iaload, 1) := by decide +kernel
theorem dL_law_586 : decode cL_law 586 = .ok (.aload_n 0, 1) := by decide +kernel
theorem dL_law_587 : decode cL_law 587 = .ok (.iload 4, 2) := by decide +kernel
theorem dL_law_589 : decode cL_law 589 = .ok (.iconst 2, 1) := by decide +kernel
theorem dL_law_590 : decode cL_law 590 = .ok (.iadd, 1) := by decide +kernel
theorem dL_law_591 : decode cL_law 591 = .ok (.iaload, 1) := by decide +kernel
theorem dL_law_592 : decode cL_law 592 = .ok (.aload_n 0, 1) := by decide +kernel
theorem dL_law_593 : decode cL_law 593 = .ok (.iload 4, 2) := by decide +kernel
theorem dL_law_595 : decode cL_law 595 = .ok (.iconst 3, 1) := by decide +kernel
theorem dL_law_596 : decode cL_law 596 = .ok (.iadd, 1) := by decide +kernel
theorem dL_law_597 : decode cL_law 597 = .ok (.iaload, 1) := by decide +kernel
theorem dL_law_598 : decode cL_law 598 = .ok (.invokevirtual 134, 3) := by decide +kernel
theorem dL_law_601 : decode cL_law 601 = .ok (.istore 6, 2) := by decide +kernel
theorem dL_law_603 : decode cL_law 603 = .ok (.aload_n 2, 1) := by decide +kernel
theorem dL_law_604 : decode cL_law 604 = .ok (.invokevirtual 117, 3) := by decide +kernel
theorem dL_law_607 : decode cL_law 607 = .ok (.iload 5, 2) := by decide +kernel
theorem dL_law_609 : decode cL_law 609 = .ok (.if_icmp .eq 5, 3) := by decide +kernel
theorem dL_law_612 : decode cL_law 612 = .ok (.iconst 0, 1) := by decide +kernel
theorem dL_law_613 : decode cL_law 613 = .ok (.ireturn, 1) := by decide +kernel
theorem dL_law_614 : decode cL_law 614 = .ok (.iload 5, 2) := by decide +kernel
theorem dL_law_616 : decode cL_law 616 = .ok (.ifCond .ne 15, 3) := by decide +kernel
theorem dL_law_619 : decode cL_law 619 = .ok (.aload_n 3, 1) := by decide +kernel
theorem dL_law_620 : decode cL_law 620 = .ok (.iconst 0, 1) := by decide +kernel
theorem dL_law_621 : decode cL_law 621 = .ok (.laload, 1) := by decide +kernel
theorem dL_law_622 : decode cL_law 622 = .ok (.iload 6, 2) := by decide +kernel
theorem dL_law_624 : decode cL_law 624 = .ok (.i2l, 1) := by decide +kernel
theorem dL_law_625 : decode cL_law 625 = .ok (.lcmp, 1) := by decide +kernel
theorem dL_law_626 : decode cL_law 626 = .ok (.ifCond .eq 5, 3) := by decide +kernel
theorem dL_law_629 : decode cL_law 629 = .ok (.iconst 0, 1) := by decide +kernel
theorem dL_law_630 : decode cL_law 630 = .ok (.ireturn, 1) := by decide +kernel
theorem dL_law_631 : decode cL_law 631 = .ok (.goto 1703, 3) := by decide +kernel
theorem dL_law_634 : decode cL_law 634 = .ok (.aload_n 1, 1) := by decide +kernel
theorem dL_law_635 : decode cL_law 635 = .ok (.aload_n 0, 1) := by decide +kernel
theorem dL_law_636 : decode cL_law 636 = .ok (.iload 4, 2) := by decide +kernel
theorem dL_law_638 : decode cL_law 638 = .ok (.iconst 1, 1) := by decide +kernel
theorem dL_law_639 : decode cL_law 639 = .ok (.iadd, 1) := by decide +kernel
theorem dL_law_640 : decode cL_law 640 = .ok (.iaload, 1) := by decide +kernel
theorem dL_law_641 : decode cL_law 641 = .ok (.aload_n 3, 1) := by decide +kernel
theorem dL_law_642 : decode cL_law 642 = .ok (.invokestatic 135, 3) := by decide +kernel
theorem dL_law_645 : decode cL_law 645 = .ok (.istore 5, 2) := by decide +kernel
theorem dL_law_647 : decode cL_law 647 = .ok (.aload_n 2, 1) := by decide +kernel
theorem dL_law_648 : decode cL_law 648 = .ok (.aload_n 0, 1) := by decide +kernel
theorem dL_law_649 : decode cL_law 649 = .ok (.iload 4, 2) := by decide +kernel
theorem dL_law_651 : decode cL_law 651 = .ok (.iconst 1, 1) := by decide +kernel
theorem dL_law_652 : decode cL_law 652 = .ok (.iadd, 1) := by decide +kernel
theorem dL_law_653 : decode cL_law 653 = .ok (.iaload, 1) := by decide +kernel
theorem dL_law_654 : decode cL_law 654 = .ok (.invokevirtual 137, 3) := by decide +kernel
theorem dL_law_657 : decode cL_law 657 = .ok (.istore 6, 2) := by decide +kernel
theorem dL_law_659 : decode cL_law 659 = .ok (.aload_n 2, 1) := by decide +kernel
theorem dL_law_660 : decode cL_law 660 = .ok (.invokevirtual 117, 3) := by decide +kernel
theorem dL_law_663 : decode cL_law 663 = .ok (.iload 5, 2) := by decide +kernel
theorem dL_law_665 : decode cL_law 665 = .ok (.if_icmp .eq 5, 3) := by decide +kernel
theorem dL_law_668 : decode cL_law 668 = .ok (.iconst 0, 1) := by decide +kernel
theorem dL_law_669 : decode cL_law 669 = .ok (.ireturn, 1) := by decide +kernel
theorem dL_law_670 : decode cL_law 670 = .ok (.iload 5, 2) := by decide +kernel
theorem dL_law_672 : decode cL_law 672 = .ok (.ifCond .ne 15, 3) := by decide +kernel
theorem dL_law_675 : decode cL_law 675 = .ok (.aload_n 3, 1) := by decide +kernel
theorem dL_law_676 : decode cL_law 676 = .ok (.iconst 0, 1) := by decide +kernel
theorem dL_law_677 : decode cL_law 677 = .ok (.laload, 1) := by decide +kernel
theorem dL_law_678 : decode cL_law 678 = .ok (.iload 6, 2) := by decide +kernel
theorem dL_law_680 : decode cL_law 680 = .ok (.i2l, 1) := by decide +kernel
theorem dL_law_681 : decode cL_law 681 = .ok (.lcmp, 1) := by decide +kernel
theorem dL_law_682 : decode cL_law 682 = .ok (.ifCond .eq 5, 3) := by decide +kernel
theorem dL_law_685 : decode cL_law 685 = .ok (.iconst 0, 1) := by decide +kernel
theorem dL_law_686 : decode cL_law 686 = .ok (.ireturn, 1) := by decide +kernel
theorem dL_law_687 : decode cL_law 687 = .ok (.goto 1647, 3) := by decide +kernel
theorem dL_law_690 : decode cL_law 690 = .ok (.aload_n 1, 1) := by decide +kernel
theorem dL_law_691 : decode cL_law 691 = .ok (.aload_n 0, 1) := by decide +kernel
theorem dL_law_692 : decode cL_law 692 = .ok (.iload 4, 2) := by decide +kernel
theorem dL_law_694 : decode cL_law 694 = .ok (.iconst 1, 1) := by decide +kernel
theorem dL_law_695 : decode cL_law 695 = .ok (.iadd, 1) := by decide +kernel
theorem dL_law_696 : decode cL_law 696 = .ok (.iaload, 1) := by decide +kernel
theorem dL_law_697 : decode cL_law 697 = .ok (.aload_n 3, 1) := by decide +kernel
theorem dL_law_698 : decode cL_law 698 = .ok (.invokestatic 138, 3) := by decide +kernel
theorem dL_law_701 : decode cL_law 701 = .ok (.istore 5, 2) := by decide +kernel
theorem dL_law_703 : decode cL_law 703 = .ok (.aload_n 2, 1) := by decide +kernel
theorem dL_law_704 : decode cL_law 704 = .ok (.aload_n 0, 1) := by decide +kernel
theorem dL_law_705 : decode cL_law 705 = .ok (.iload 4, 2) := by decide +kernel
theorem dL_law_707 : decode cL_law 707 = .ok (.iconst 1, 1) := by decide +kernel
theorem dL_law_708 : decode cL_law 708 = .ok (.iadd, 1) := by decide +kernel
theorem dL_law_709 : decode cL_law 709 = .ok (.iaload, 1) := by decide +kernel
theorem dL_law_710 : decode cL_law 710 = .ok (.invokevirtual 140, 3) := by decide +kernel
theorem dL_law_713 : decode cL_law 713 = .ok (.istore 6, 2) := by decide +kernel
theorem dL_law_715 : decode cL_law 715 = .ok (.aload_n 2, 1) := by decide +kernel
theorem dL_law_716 : decode cL_law 716 = .ok (.invokevirtual 117, 3) := by decide +kernel
theorem dL_law_719 : decode cL_law 719 = .ok (.iload 5, 2) := by decide +kernel
theorem dL_law_721 : decode cL_law 721 = .ok (.if_icmp .eq 5, 3) := by decide +kernel
theorem dL_law_724 : decode cL_law 724 = .ok (.iconst 0, 1) := by decide +kernel
theorem dL_law_725 : decode cL_law 725 = .ok (.ireturn, 1) := by decide +kernel
theorem dL_law_726 : decode cL_law 726 = .ok (.iload 5, 2) := by decide +kernel
theorem dL_law_728 : decode cL_law 728 = .ok (.ifCond .ne 15, 3) := by decide +kernel
theorem dL_law_731 : decode cL_law 731 = .ok (.aload_n 3, 1) := by decide +kernel
theorem dL_law_732 : decode cL_law 732 = .ok (.iconst 0, 1) := by decide +kernel
theorem dL_law_733 : decode cL_law 733 = .ok (.laload, 1) := by decide +kernel
theorem dL_law_734 : decode cL_law 734 = .ok (.iload 6, 2) := by decide +kernel
theorem dL_law_736 : decode cL_law 736 = .ok (.i2l, 1) := by decide +kernel
theorem dL_law_737 : decode cL_law 737 = .ok (.lcmp, 1) := by decide +kernel
theorem dL_law_738 : decode cL_law 738 = .ok (.ifCond .eq 5, 3) := by decide +kernel
theorem dL_law_741 : decode cL_law 741 = .ok (.iconst 0, 1) := by decide +kernel
theorem dL_law_742 : decode cL_law 742 = .ok (.ireturn, 1) := by decide +kernel
theorem dL_law_743 : decode cL_law 743 = .ok (.goto 1591, 3) := by decide +kernel
theorem dL_law_746 : decode cL_law 746 = .ok (.aload_n 1, 1) := by decide +kernel
theorem dL_law_747 : decode cL_law 747 = .ok (.aload_n 0, 1) := by decide +kernel
theorem dL_law_748 : decode cL_law 748 = .ok (.iload 4, 2) := by decide +kernel
theorem dL_law_750 : decode cL_law 750 = .ok (.iconst 1, 1) := by decide +kernel
theorem dL_law_751 : decode cL_law 751 = .ok (.iadd, 1) := by decide +kernel
theorem dL_law_752 : decode cL_law 752 = .ok (.iaload, 1) := by decide +kernel
theorem dL_law_753 : decode cL_law 753 = .ok (.aload_n 3, 1) := by decide +kernel
theorem dL_law_754 : decode cL_law 754 = .ok (.invokestatic 141, 3) := by decide +kernel
theorem dL_law_757 : decode cL_law 757 = .ok (.istore 5, 2) := by decide +kernel
theorem dL_law_759 : decode cL_law 759 = .ok (.aload_n 2, 1) := by decide +kernel
theorem dL_law_760 : decode cL_law 760 = .ok (.aload_n 0, 1) := by decide +kernel
theorem dL_law_761 : decode cL_law 761 = .ok (.iload 4, 2) := by decide +kernel
theorem dL_law_763 : decode cL_law 763 = .ok (.iconst 1, 1) := by decide +kernel
theorem dL_law_764 : decode cL_law 764 = .ok (.iadd, 1) := by decide +kernel
theorem dL_law_765 : decode cL_law 765 = .ok (.iaload, 1) := by decide +kernel
theorem dL_law_766 : decode cL_law 766 = .ok (.invokevirtual 143, 3) := by decide +kernel
theorem dL_law_769 : decode cL_law 769 = .ok (.istore 6, 2) := by decide +kernel
theorem dL_law_771 : decode cL_law 771 = .ok (.aload_n 2, 1) := by decide +kernel
theorem dL_law_772 : decode cL_law 772 = .ok (.invokevirtual 117, 3) := by decide +kernel
theorem dL_law_775 : decode cL_law 775 = .ok (.iload 5, 2) := by decide +kernel
theorem dL_law_777 : decode cL_law 777 = .ok (.if_icmp .eq 5, 3) := by decide +kernel
theorem dL_law_780 : decode cL_law 780 = .ok (.iconst 0, 1) := by decide +kernel
theorem dL_law_781 : decode cL_law 781 = .ok (.ireturn, 1) := by decide +kernel
theorem dL_law_782 : decode cL_law 782 = .ok (.iload 5, 2) := by decide +kernel
theorem dL_law_784 : decode cL_law 784 = .ok (.ifCond .ne 15, 3) := by decide +kernel
theorem dL_law_787 : decode cL_law 787 = .ok (.aload_n 3, 1) := by decide +kernel
theorem dL_law_788 : decode cL_law 788 = .ok (.iconst 0, 1) := by decide +kernel
theorem dL_law_789 : decode cL_law 789 = .ok (.laload, 1) := by decide +kernel
theorem dL_law_790 : decode cL_law 790 = .ok (.iload 6, 2) := by decide +kernel
theorem dL_law_792 : decode cL_law 792 = .ok (.i2l, 1) := by decide +kernel
theorem dL_law_793 : decode cL_law 793 = .ok (.lcmp, 1) := by decide +kernel
theorem dL_law_794 : decode cL_law 794 = .ok (.ifCond .eq 5, 3) := by decide +kernel
theorem dL_law_797 : decode cL_law 797 = .ok (.iconst 0, 1) := by decide +kernel
theorem dL_law_798 : decode cL_law 798 = .ok (.ireturn, 1) := by decide +kernel
theorem dL_law_799 : decode cL_law 799 = .ok (.goto 1535, 3) := by decide +kernel
theorem dL_law_802 : decode cL_law 802 = .ok (.aload_n 1, 1) := by decide +kernel
theorem dL_law_803 : decode cL_law 803 = .ok (.aload_n 0, 1) := by decide +kernel
theorem dL_law_804 : decode cL_law 804 = .ok (.iload 4, 2) := by decide +kernel
theorem dL_law_806 : decode cL_law 806 = .ok (.iconst 1, 1) := by decide +kernel
theorem dL_law_807 : decode cL_law 807 = .ok (.iadd, 1) := by decide +kernel
theorem dL_law_808 : decode cL_law 808 = .ok (.iaload, 1) := by decide +kernel
theorem dL_law_809 : decode cL_law 809 = .ok (.ifCond .eq 7, 3) := by decide +kernel
theorem dL_law_812 : decode cL_law 812 = .ok (.iconst 1, 1) := by decide +kernel
theorem dL_law_813 : decode cL_law 813 = .ok (.goto 4, 3) := by decide +kernel
theorem dL_law_816 : decode cL_law 816 = .ok (.iconst 0, 1) := by decide +kernel
theorem dL_law_817 : decode cL_law 817 = .ok (.invokevirtual 144, 3) := by decide +kernel
theorem dL_law_820 : decode cL_law 820 = .ok (.aload_n 2, 1) := by decide +kernel
theorem dL_law_821 : decode cL_law 821 = .ok (.aload_n 0, 1) := by decide +kernel
theorem dL_law_822 : decode cL_law 822 = .ok (.iload 4, 2) := by decide +kernel
theorem dL_law_824 : decode cL_law 824 = .ok (.iconst 1, 1) := by decide +kernel
theorem dL_law_825 : decode cL_law 825 = .ok (.iadd, 1) := by decide +kernel
theorem dL_law_826 : decode cL_law 826 = .ok (.iaload, 1) := by decide +kernel
theorem dL_law_827 : decode cL_law 827 = .ok (.ifCond .eq 7, 3) := by decide +kernel
theorem dL_law_830 : decode cL_law 830 = .ok (.iconst 1, 1) := by decide +kernel
theorem dL_law_831 : decode cL_law 831 = .ok (.goto 4, 3) := by decide +kernel
theorem dL_law_834 : decode cL_law 834 = .ok (.iconst 0, 1) := by decide +kernel
theorem dL_law_835 : decode cL_law 835 = .ok (.invokevirtual 148, 3) := by decide +kernel
theorem dL_law_838 : decode cL_law 838 = .ok (.if_icmp .eq 1496, 3) := by decide +kernel
theorem dL_law_841 : decode cL_law 841 = .ok (.iconst 0, 1) := by decide +kernel
theorem dL_law_842 : decode cL_law 842 = .ok (.ireturn, 1) := by decide +kernel
theorem dL_law_843 : decode cL_law 843 = .ok (.aload_n 1, 1) := by decide +kernel
theorem dL_law_844 : decode cL_law 844 = .ok (.aload_n 3, 1) := by decide +kernel
theorem dL_law_845 : decode cL_law 845 = .ok (.invokestatic 149, 3) := by decide +kernel
theorem dL_law_848 : decode cL_law 848 = .ok (.istore 5, 2) := by decide +kernel
theorem dL_law_850 : decode cL_law 850 = .ok (.aload_n 2, 1) := by decide +kernel
theorem dL_law_851 : decode cL_law 851 = .ok (.invokevirtual 152, 3) := by decide +kernel
theorem dL_law_854 : decode cL_law 854 = .ok (.istore 6, 2) := by decide +kernel
theorem dL_law_856 : decode cL_law 856 = .ok (.aload_n 2, 1) := by decide +kernel
theorem dL_law_857 : decode cL_law 857 = .ok (.invokevirtual 117, 3) := by decide +kernel
theorem dL_law_860 : decode cL_law 860 = .ok (.iload 5, 2) := by decide +kernel
theorem dL_law_862 : decode cL_law 862 = .ok (.if_icmp .eq 5, 3) := by decide +kernel
theorem dL_law_865 : decode cL_law 865 = .ok (.iconst 0, 1) := by decide +kernel
theorem dL_law_866 : decode cL_law 866 = .ok (.ireturn, 1) := by decide +kernel
theorem dL_law_867 : decode cL_law 867 = .ok (.iload 5, 2) := by decide +kernel
theorem dL_law_869 : decode cL_law 869 = .ok (.ifCond .ne 15, 3) := by decide +kernel
theorem dL_law_872 : decode cL_law 872 = .ok (.aload_n 3, 1) := by decide +kernel
theorem dL_law_873 : decode cL_law 873 = .ok (.iconst 0, 1) := by decide +kernel
theorem dL_law_874 : decode cL_law 874 = .ok (.laload, 1) := by decide +kernel
theorem dL_law_875 : decode cL_law 875 = .ok (.iload 6, 2) := by decide +kernel
theorem dL_law_877 : decode cL_law 877 = .ok (.i2l, 1) := by decide +kernel
theorem dL_law_878 : decode cL_law 878 = .ok (.lcmp, 1) := by decide +kernel
theorem dL_law_879 : decode cL_law 879 = .ok (.ifCond .eq 5, 3) := by decide +kernel
theorem dL_law_882 : decode cL_law 882 = .ok (.iconst 0, 1) := by decide +kernel
theorem dL_law_883 : decode cL_law 883 = .ok (.ireturn, 1) := by decide +kernel
theorem dL_law_884 : decode cL_law 884 = .ok (.goto 1450, 3) := by decide +kernel
theorem dL_law_887 : decode cL_law 887 = .ok (.aload_n 1, 1) := by decide +kernel
theorem dL_law_888 : decode cL_law 888 = .ok (.invokevirtual 153, 3) := by decide +kernel
theorem dL_law_891 : decode cL_law 891 = .ok (.aload_n 2, 1) := by decide +kernel
theorem dL_law_892 : decode cL_law 892 = .ok (.invokevirtual 156, 3) := by decide +kernel
theorem dL_law_895 : decode cL_law 895 = .ok (.if_icmp .eq 1439, 3) := by decide +kernel
theorem dL_law_898 : decode cL_law 898 = .ok (.iconst 0, 1) := by decide +kernel
theorem dL_law_899 : decode cL_law 899 = .ok (.ireturn, 1) := by decide +kernel
theorem dL_law_900 : decode cL_law 900 = .ok (.aload_n 1, 1) := by decide +kernel
theorem dL_law_901 : decode cL_law 901 = .ok (.invokevirtual 157, 3) := by decide +kernel
theorem dL_law_904 : decode cL_law 904 = .ok (.aload_n 2, 1) := by decide +kernel
theorem dL_law_905 : decode cL_law 905 = .ok (.invokevirtual 160, 3) := by decide +kernel
theorem dL_law_908 : decode cL_law 908 = .ok (.if_icmp .eq 1426, 3) := by decide +kernel
theorem dL_law_911 : decode cL_law 911 = .ok (.iconst 0, 1) := by decide +kernel
theorem dL_law_912 : decode cL_law 912 = .ok (.ireturn, 1) := by decide +kernel
theorem dL_law_913 : decode cL_law 913 = .ok (.aload_n 1, 1) := by decide +kernel
theorem dL_law_914 : decode cL_law 914 = .ok (.invokevirtual 161, 3) := by decide +kernel
theorem dL_law_917 : decode cL_law 917 = .ok (.aload_n 2, 1) := by decide +kernel
theorem dL_law_918 : decode cL_law 918 = .ok (.invokevirtual 164, 3) := by decide +kernel
theorem dL_law_921 : decode cL_law 921 = .ok (.if_icmp .eq 1413, 3) := by decide +kernel
theorem dL_law_924 : decode cL_law 924 = .ok (.iconst 0, 1) := by decide +kernel
theorem dL_law_925 : decode cL_law 925 = .ok (.ireturn, 1) := by decide +kernel
theorem dL_law_926 : decode cL_law 926 = .ok (.aload_n 1, 1) := by decide +kernel
theorem dL_law_927 : decode cL_law 927 = .ok (.invokevirtual 165, 3) := by decide +kernel
theorem dL_law_930 : decode cL_law 930 = .ok (.aload_n 2, 1) := by decide +kernel
theorem dL_law_931 : decode cL_law 931 = .ok (.invokevirtual 168, 3) := by decide +kernel
theorem dL_law_934 : decode cL_law 934 = .ok (.if_icmp .eq 1400, 3) := by decide +kernel
theorem dL_law_937 : decode cL_law 937 = .ok (.iconst 0, 1) := by decide +kernel
theorem dL_law_938 : decode cL_law 938 = .ok (.ireturn, 1) := by decide +kernel
theorem dL_law_939 : decode cL_law 939 = .ok (.aload_n 1, 1) := by decide +kernel
theorem dL_law_940 : decode cL_law 940 = .ok (.aload_n 3, 1) := by decide +kernel
theorem dL_law_941 : decode cL_law 941 = .ok (.invokestatic 169, 3) := by decide +kernel
theorem dL_law_944 : decode cL_law 944 = .ok (.istore 5, 2) := by decide +kernel
theorem dL_law_946 : decode cL_law 946 = .ok (.aload_n 2, 1) := by decide +kernel
theorem dL_law_947 : decode cL_law 947 = .ok (.invokevirtual 171, 3) := by decide +kernel
theorem dL_law_950 : decode cL_law 950 = .ok (.istore 6, 2) := by decide +kernel
theorem dL_law_952 : decode cL_law 952 = .ok (.aload_n 2, 1) := by decide +kernel
theorem dL_law_953 : decode cL_law 953 = .ok (.invokevirtual 117, 3) := by decide +kernel
theorem dL_law_956 : decode cL_law 956 = .ok (.iload 5, 2) := by decide +kernel
theorem dL_law_958 : decode cL_law 958 = .ok (.if_icmp .eq 5, 3) := by decide +kernel
theorem dL_law_961 : decode cL_law 961 = .ok (.iconst 0, 1) := by decide +kernel
theorem dL_law_962 : decode cL_law 962 = .ok (.ireturn, 1) := by decide +kernel
theorem dL_law_963 : decode cL_law 963 = .ok (.iload 5, 2) := by decide +kernel
theorem dL_law_965 : decode cL_law 965 = .ok (.ifCond .ne 15, 3) := by decide +kernel
theorem dL_law_968 : decode cL_law 968 = .ok (.aload_n 3, 1) := by decide +kernel
theorem dL_law_969 : decode cL_law 969 = .ok (.iconst 0, 1) := by decide +kernel
theorem dL_law_970 : decode cL_law 970 = .ok (.laload, 1) := by decide +kernel
theorem dL_law_971 : decode cL_law 971 = .ok (.iload 6, 2) := by decide +kernel
theorem dL_law_973 : decode cL_law 973 = .ok (.i2l, 1) := by decide +kernel
theorem dL_law_974 : decode cL_law 974 = .ok (.lcmp, 1) := by decide +kernel
theorem dL_law_975 : decode cL_law 975 = .ok (.ifCond .eq 5, 3) := by decide +kernel
theorem dL_law_978 : decode cL_law 978 = .ok (.iconst 0, 1) := by decide +kernel
theorem dL_law_979 : decode cL_law 979 = .ok (.ireturn, 1) := by decide +kernel
theorem dL_law_980 : decode cL_law 980 = .ok (.goto 1354, 3) := by decide +kernel
theorem dL_law_983 : decode cL_law 983 = .ok (.aload_n 1, 1) := by decide +kernel
theorem dL_law_984 : decode cL_law 984 = .ok (.invokevirtual 172, 3) := by decide +kernel
theorem dL_law_987 : decode cL_law 987 = .ok (.aload_n 2, 1) := by decide +kernel
theorem dL_law_988 : decode cL_law 988 = .ok (.invokevirtual 175, 3) := by decide +kernel
theorem dL_law_991 : decode cL_law 991 = .ok (.if_icmp .eq 1343, 3) := by decide +kernel
theorem dL_law_994 : decode cL_law 994 = .ok (.iconst 0, 1) := by decide +kernel
theorem dL_law_995 : decode cL_law 995 = .ok (.ireturn, 1) := by decide +kernel
theorem dL_law_996 : decode cL_law 996 = .ok (.aload_n 1, 1) := by decide +kernel
theorem dL_law_997 : decode cL_law 997 = .ok (.invokevirtual 176, 3) := by decide +kernel
theorem dL_law_1000 : decode cL_law 1000 = .ok (.aload_n 2, 1) := by decide +kernel
theorem dL_law_1001 : decode cL_law 1001 = .ok (.invokevirtual 179, 3) := by decide +kernel
theorem dL_law_1004 : decode cL_law 1004 = .ok (.if_icmp .eq 1330, 3) := by decide +kernel
theorem dL_law_1007 : decode cL_law 1007 = .ok (.iconst 0, 1) := by decide +kernel
theorem dL_law_1008 : decode cL_law 1008 = .ok (.ireturn, 1) := by decide +kernel
theorem dL_law_1009 : decode cL_law 1009 = .ok (.aload_n 1, 1) := by decide +kernel
theorem dL_law_1010 : decode cL_law 1010 = .ok (.invokevirtual 180, 3) := by decide +kernel
theorem dL_law_1013 : decode cL_law 1013 = .ok (.aload_n 2, 1) := by decide +kernel
theorem dL_law_1014 : decode cL_law 1014 = .ok (.invokevirtual 183, 3) := by decide +kernel
theorem dL_law_1017 : decode cL_law 1017 = .ok (.if_icmp .eq 1317, 3) := by decide +kernel
theorem dL_law_1020 : decode cL_law 1020 = .ok (.iconst 0, 1) := by decide +kernel
theorem dL_law_1021 : decode cL_law 1021 = .ok (.ireturn, 1) := by decide +kernel
theorem dL_law_1022 : decode cL_law 1022 = .ok (.aload_n 1, 1) := by decide +kernel
theorem dL_law_1023 : decode cL_law 1023 = .ok (.invokevirtual 184, 3) := by decide +kernel
theorem dL_law_1026 : decode cL_law 1026 = .ok (.aload_n 2, 1) := by decide +kernel
theorem dL_law_1027 : decode cL_law 1027 = .ok (.invokevirtual 187, 3) := by decide +kernel
theorem dL_law_1030 : decode cL_law 1030 = .ok (.if_icmp .eq 1304, 3) := by decide +kernel
theorem dL_law_1033 : decode cL_law 1033 = .ok (.iconst 0, 1) := by decide +kernel
theorem dL_law_1034 : decode cL_law 1034 = .ok (.ireturn, 1) := by decide +kernel
theorem dL_law_1035 : decode cL_law 1035 = .ok (.aload_n 1, 1) := by decide +kernel
theorem dL_law_1036 : decode cL_law 1036 = .ok (.invokevirtual 188, 3) := by decide +kernel
theorem dL_law_1039 : decode cL_law 1039 = .ok (.aload_n 2, 1) := by decide +kernel
theorem dL_law_1040 : decode cL_law 1040 = .ok (.invokevirtual 191, 3) := by decide +kernel
theorem dL_law_1043 : decode cL_law 1043 = .ok (.if_icmp .eq 1291, 3) := by decide +kernel
theorem dL_law_1046 : decode cL_law 1046 = .ok (.iconst 0, 1) := by decide +kernel
theorem dL_law_1047 : decode cL_law 1047 = .ok (.ireturn, 1) := by decide +kernel
theorem dL_law_1048 : decode cL_law 1048 = .ok (.aload_n 1, 1) := by decide +kernel
theorem dL_law_1049 : decode cL_law 1049 = .ok (.invokevirtual 192, 3) := by decide +kernel
theorem dL_law_1052 : decode cL_law 1052 = .ok (.aload_n 2, 1) := by decide +kernel
theorem dL_law_1053 : decode cL_law 1053 = .ok (.invokevirtual 195, 3) := by decide +kernel
theorem dL_law_1056 : decode cL_law 1056 = .ok (.if_icmp .eq 1278, 3) := by decide +kernel
theorem dL_law_1059 : decode cL_law 1059 = .ok (.iconst 0, 1) := by decide +kernel
theorem dL_law_1060 : decode cL_law 1060 = .ok (.ireturn, 1) := by decide +kernel
theorem dL_law_1061 : decode cL_law 1061 = .ok (.aload_n 1, 1) := by decide +kernel
theorem dL_law_1062 : decode cL_law 1062 = .ok (.invokevirtual 196, 3) := by decide +kernel
theorem dL_law_1065 : decode cL_law 1065 = .ok (.aload_n 2, 1) := by decide +kernel
theorem dL_law_1066 : decode cL_law 1066 = .ok (.invokevirtual 200, 3) := by decide +kernel
theorem dL_law_1069 : decode cL_law 1069 = .ok (.if_icmp .eq 1265, 3) := by decide +kernel
theorem dL_law_1072 : decode cL_law 1072 = .ok (.iconst 0, 1) := by decide +kernel
theorem dL_law_1073 : decode cL_law 1073 = .ok (.ireturn, 1) := by decide +kernel
theorem dL_law_1074 : decode cL_law 1074 = .ok (.aload_n 1, 1) := by decide +kernel
theorem dL_law_1075 : decode cL_law 1075 = .ok (.aload_n 0, 1) := by decide +kernel
theorem dL_law_1076 : decode cL_law 1076 = .ok (.iload 4, 2) := by decide +kernel
theorem dL_law_1078 : decode cL_law 1078 = .ok (.iconst 1, 1) := by decide +kernel
theorem dL_law_1079 : decode cL_law 1079 = .ok (.iadd, 1) := by decide +kernel
theorem dL_law_1080 : decode cL_law 1080 = .ok (.iaload, 1) := by decide +kernel
theorem dL_law_1081 : decode cL_law 1081 = .ok (.aload_n 3, 1) := by decide +kernel
theorem dL_law_1082 : decode cL_law 1082 = .ok (.invokestatic 201, 3) := by decide +kernel
theorem dL_law_1085 : decode cL_law 1085 = .ok (.istore 5, 2) := by decide +kernel
theorem dL_law_1087 : decode cL_law 1087 = .ok (.aload_n 2, 1) := by decide +kernel
theorem dL_law_1088 : decode cL_law 1088 = .ok (.aload_n 0, 1) := by decide +kernel
theorem dL_law_1089 : decode cL_law 1089 = .ok (.iload 4, 2) := by decide +kernel
theorem dL_law_1091 : decode cL_law 1091 = .ok (.iconst 1, 1) := by decide +kernel
theorem dL_law_1092 : decode cL_law 1092 = .ok (.iadd, 1) := by decide +kernel
theorem dL_law_1093 : decode cL_law 1093 = .ok (.iaload, 1) := by decide +kernel
theorem dL_law_1094 : decode cL_law 1094 = .ok (.invokevirtual 203, 3) := by decide +kernel
theorem dL_law_1097 : decode cL_law 1097 = .ok (.istore 6, 2) := by decide +kernel
theorem dL_law_1099 : decode cL_law 1099 = .ok (.aload_n 2, 1) := by decide +kernel
theorem dL_law_1100 : decode cL_law 1100 = .ok (.invokevirtual 117, 3) := by decide +kernel
theorem dL_law_1103 : decode cL_law 1103 = .ok (.iload 5, 2) := by decide +kernel
theorem dL_law_1105 : decode cL_law 1105 = .ok (.if_icmp .eq 5, 3) := by decide +kernel
theorem dL_law_1108 : decode cL_law 1108 = .ok (.iconst 0, 1) := by decide +kernel
theorem dL_law_1109 : decode cL_law 1109 = .ok (.ireturn, 1) := by decide +kernel
theorem dL_law_1110 : decode cL_law 1110 = .ok (.iload 5, 2) := by decide +kernel
theorem dL_law_1112 : decode cL_law 1112 = .ok (.ifCond .ne 15, 3) := by decide +kernel
theorem dL_law_1115 : decode cL_law 1115 = .ok (.aload_n 3, 1) := by decide +kernel
theorem dL_law_1116 : decode cL_law 1116 = .ok (.iconst 0, 1) := by decide +kernel
theorem dL_law_1117 : decode cL_law 1117 = .ok (.laload, 1) := by decide +kernel
theorem dL_law_1118 : decode cL_law 1118 = .ok (.iload 6, 2) := by decide +kernel
theorem dL_law_1120 : decode cL_law 1120 = .ok (.i2l, 1) := by decide +kernel
theorem dL_law_1121 : decode cL_law 1121 = .ok (.lcmp, 1) := by decide +kernel
theorem dL_law_1122 : decode cL_law 1122 = .ok (.ifCond .eq 5, 3) := by decide +kernel
theorem dL_law_1125 : decode cL_law 1125 = .ok (.iconst 0, 1) := by decide +kernel
theorem dL_law_1126 : decode cL_law 1126 = .ok (.ireturn, 1) := by decide +kernel
theorem dL_law_1127 : decode cL_law 1127 = .ok (.goto 1207, 3) := by decide +kernel
theorem dL_law_1130 : decode cL_law 1130 = .ok (.aload_n 1, 1) := by decide +kernel
theorem dL_law_1131 : decode cL_law 1131 = .ok (.aload_n 0, 1) := by decide +kernel
theorem dL_law_1132 : decode cL_law 1132 = .ok (.iload 4, 2) := by decide +kernel
theorem dL_law_1134 : decode cL_law 1134 = .ok (.iconst 1, 1) := by decide +kernel
theorem dL_law_1135 : decode cL_law 1135 = .ok (.iadd, 1) := by decide +kernel
theorem dL_law_1136 : decode cL_law 1136 = .ok (.iaload, 1) := by decide +kernel
theorem dL_law_1137 : decode cL_law 1137 = .ok (.aload_n 3, 1) := by decide +kernel
theorem dL_law_1138 : decode cL_law 1138 = .ok (.invokestatic 204, 3) := by decide +kernel
theorem dL_law_1141 : decode cL_law 1141 = .ok (.istore 5, 2) := by decide +kernel
theorem dL_law_1143 : decode cL_law 1143 = .ok (.aload_n 2, 1) := by decide +kernel
theorem dL_law_1144 : decode cL_law 1144 = .ok (.aload_n 0, 1) := by decide +kernel
theorem dL_law_1145 : decode cL_law 1145 = .ok (.iload 4, 2) := by decide +kernel
theorem dL_law_1147 : decode cL_law 1147 = .ok (.iconst 1, 1) := by decide +kernel
theorem dL_law_1148 : decode cL_law 1148 = .ok (.iadd, 1) := by decide +kernel
theorem dL_law_1149 : decode cL_law 1149 = .ok (.iaload, 1) := by decide +kernel
theorem dL_law_1150 : decode cL_law 1150 = .ok (.invokevirtual 206, 3) := by decide +kernel
theorem dL_law_1153 : decode cL_law 1153 = .ok (.istore 6, 2) := by decide +kernel
theorem dL_law_1155 : decode cL_law 1155 = .ok (.aload_n 2, 1) := by decide +kernel
theorem dL_law_1156 : decode cL_law 1156 = .ok (.invokevirtual 117, 3) := by decide +kernel
theorem dL_law_1159 : decode cL_law 1159 = .ok (.iload 5, 2) := by decide +kernel
theorem dL_law_1161 : decode cL_law 1161 = .ok (.if_icmp .eq 5, 3) := by decide +kernel
theorem dL_law_1164 : decode cL_law 1164 = .ok (.iconst 0, 1) := by decide +kernel
theorem dL_law_1165 : decode cL_law 1165 = .ok (.ireturn, 1) := by decide +kernel
theorem dL_law_1166 : decode cL_law 1166 = .ok (.iload 5, 2) := by decide +kernel
theorem dL_law_1168 : decode cL_law 1168 = .ok (.ifCond .ne 15, 3) := by decide +kernel
theorem dL_law_1171 : decode cL_law 1171 = .ok (.aload_n 3, 1) := by decide +kernel
theorem dL_law_1172 : decode cL_law 1172 = .ok (.iconst 0, 1) := by decide +kernel
theorem dL_law_1173 : decode cL_law 1173 = .ok (.laload, 1) := by decide +kernel
theorem dL_law_1174 : decode cL_law 1174 = .ok (.iload 6, 2) := by decide +kernel
theorem dL_law_1176 : decode cL_law 1176 = .ok (.i2l, 1) := by decide +kernel
theorem dL_law_1177 : decode cL_law 1177 = .ok (.lcmp, 1) := by decide +kernel
theorem dL_law_1178 : decode cL_law 1178 = .ok (.ifCond .eq 5, 3) := by decide +kernel
theorem dL_law_1181 : decode cL_law 1181 = .ok (.iconst 0, 1) := by decide +kernel
theorem dL_law_1182 : decode cL_law 1182 = .ok (.ireturn, 1) := by decide +kernel
theorem dL_law_1183 : decode cL_law 1183 = .ok (.goto 1151, 3) := by decide +kernel
theorem dL_law_1186 : decode cL_law 1186 = .ok (.aload_n 1, 1) := by decide +kernel
theorem dL_law_1187 : decode cL_law 1187 = .ok (.aload_n 0, 1) := by decide +kernel
theorem dL_law_1188 : decode cL_law 1188 = .ok (.iload 4, 2) := by decide +kernel
theorem dL_law_1190 : decode cL_law 1190 = .ok (.iconst 1, 1) := by decide +kernel
theorem dL_law_1191 : decode cL_law 1191 = .ok (.iadd, 1) := by decide +kernel
theorem dL_law_1192 : decode cL_law 1192 = .ok (.iaload, 1) := by decide +kernel
theorem dL_law_1193 : decode cL_law 1193 = .ok (.aload_n 3, 1) := by decide +kernel
theorem dL_law_1194 : decode cL_law 1194 = .ok (.invokestatic 207, 3) := by decide +kernel
theorem dL_law_1197 : decode cL_law 1197 = .ok (.istore 5, 2) := by decide +kernel
theorem dL_law_1199 : decode cL_law 1199 = .ok (.aload_n 2, 1) := by decide +kernel
theorem dL_law_1200 : decode cL_law 1200 = .ok (.aload_n 0, 1) := by decide +kernel
theorem dL_law_1201 : decode cL_law 1201 = .ok (.iload 4, 2) := by decide +kernel
theorem dL_law_1203 : decode cL_law 1203 = .ok (.iconst 1, 1) := by decide +kernel
theorem dL_law_1204 : decode cL_law 1204 = .ok (.iadd, 1) := by decide +kernel
theorem dL_law_1205 : decode cL_law 1205 = .ok (.iaload, 1) := by decide +kernel
theorem dL_law_1206 : decode cL_law 1206 = .ok (.invokevirtual 209, 3) := by decide +kernel
theorem dL_law_1209 : decode cL_law 1209 = .ok (.istore 6, 2) := by decide +kernel
theorem dL_law_1211 : decode cL_law 1211 = .ok (.aload_n 2, 1) := by decide +kernel
theorem dL_law_1212 : decode cL_law 1212 = .ok (.invokevirtual 117, 3) := by decide +kernel
theorem dL_law_1215 : decode cL_law 1215 = .ok (.iload 5, 2) := by decide +kernel
theorem dL_law_1217 : decode cL_law 1217 = .ok (.if_icmp .eq 5, 3) := by decide +kernel
theorem dL_law_1220 : decode cL_law 1220 = .ok (.iconst 0, 1) := by decide +kernel
theorem dL_law_1221 : decode cL_law 1221 = .ok (.ireturn, 1) := by decide +kernel
theorem dL_law_1222 : decode cL_law 1222 = .ok (.iload 5, 2) := by decide +kernel
theorem dL_law_1224 : decode cL_law 1224 = .ok (.ifCond .ne 15, 3) := by decide +kernel
theorem dL_law_1227 : decode cL_law 1227 = .ok (.aload_n 3, 1) := by decide +kernel
theorem dL_law_1228 : decode cL_law 1228 = .ok (.iconst 0, 1) := by decide +kernel
theorem dL_law_1229 : decode cL_law 1229 = .ok (.laload, 1) := by decide +kernel
theorem dL_law_1230 : decode cL_law 1230 = .ok (.iload 6, 2) := by decide +kernel
theorem dL_law_1232 : decode cL_law 1232 = .ok (.i2l, 1) := by decide +kernel
theorem dL_law_1233 : decode cL_law 1233 = .ok (.lcmp, 1) := by decide +kernel
theorem dL_law_1234 : decode cL_law 1234 = .ok (.ifCond .eq 5, 3) := by decide +kernel
theorem dL_law_1237 : decode cL_law 1237 = .ok (.iconst 0, 1) := by decide +kernel
theorem dL_law_1238 : decode cL_law 1238 = .ok (.ireturn, 1) := by decide +kernel
theorem dL_law_1239 : decode cL_law 1239 = .ok (.goto 1095, 3) := by decide +kernel
theorem dL_law_1242 : decode cL_law 1242 = .ok (.aload_n 1, 1) := by decide +kernel
theorem dL_law_1243 : decode cL_law 1243 = .ok (.aload_n 0, 1) := by decide +kernel
theorem dL_law_1244 : decode cL_law 1244 = .ok (.iload 4, 2) := by decide +kernel
theorem dL_law_1246 : decode cL_law 1246 = .ok (.iconst 1, 1) := by decide +kernel
theorem dL_law_1247 : decode cL_law 1247 = .ok (.iadd, 1) := by decide +kernel
theorem dL_law_1248 : decode cL_law 1248 = .ok (.iaload, 1) := by decide +kernel
theorem dL_law_1249 : decode cL_law 1249 = .ok (.aload_n 3, 1) := by decide +kernel
theorem dL_law_1250 : decode cL_law 1250 = .ok (.invokestatic 210, 3) := by decide +kernel
theorem dL_law_1253 : decode cL_law 1253 = .ok (.istore 5, 2) := by decide +kernel
theorem dL_law_1255 : decode cL_law 1255 = .ok (.aload_n 2, 1) := by decide +kernel
theorem dL_law_1256 : decode cL_law 1256 = .ok (.aload_n 0, 1) := by decide +kernel
theorem dL_law_1257 : decode cL_law 1257 = .ok (.iload 4, 2) := by decide +kernel
theorem dL_law_1259 : decode cL_law 1259 = .ok (.iconst 1, 1) := by decide +kernel
theorem dL_law_1260 : decode cL_law 1260 = .ok (.iadd, 1) := by decide +kernel
theorem dL_law_1261 : decode cL_law 1261 = .ok (.iaload, 1) := by decide +kernel
theorem dL_law_1262 : decode cL_law 1262 = .ok (.invokevirtual 212, 3) := by decide +kernel
theorem dL_law_1265 : decode cL_law 1265 = .ok (.istore 6, 2) := by decide +kernel
theorem dL_law_1267 : decode cL_law 1267 = .ok (.aload_n 2, 1) := by decide +kernel
theorem dL_law_1268 : decode cL_law 1268 = .ok (.invokevirtual 117, 3) := by decide +kernel
theorem dL_law_1271 : decode cL_law 1271 = .ok (.iload 5, 2) := by decide +kernel
theorem dL_law_1273 : decode cL_law 1273 = .ok (.if_icmp .eq 5, 3) := by decide +kernel
theorem dL_law_1276 : decode cL_law 1276 = .ok (.iconst 0, 1) := by decide +kernel
theorem dL_law_1277 : decode cL_law 1277 = .ok (.ireturn, 1) := by decide +kernel
theorem dL_law_1278 : decode cL_law 1278 = .ok (.iload 5, 2) := by decide +kernel
theorem dL_law_1280 : decode cL_law 1280 = .ok (.ifCond .ne 15, 3) := by decide +kernel
theorem dL_law_1283 : decode cL_law 1283 = .ok (.aload_n 3, 1) := by decide +kernel
theorem dL_law_1284 : decode cL_law 1284 = .ok (.iconst 0, 1) := by decide +kernel
theorem dL_law_1285 : decode cL_law 1285 = .ok (.laload, 1) := by decide +kernel
theorem dL_law_1286 : decode cL_law 1286 = .ok (.iload 6, 2) := by decide +kernel
theorem dL_law_1288 : decode cL_law 1288 = .ok (.i2l, 1) := by decide +kernel
theorem dL_law_1289 : decode cL_law 1289 = .ok (.lcmp, 1) := by decide +kernel
theorem dL_law_1290 : decode cL_law 1290 = .ok (.ifCond .eq 5, 3) := by decide +kernel
theorem dL_law_1293 : decode cL_law 1293 = .ok (.iconst 0, 1) := by decide +kernel
theorem dL_law_1294 : decode cL_law 1294 = .ok (.ireturn, 1) := by decide +kernel
theorem dL_law_1295 : decode cL_law 1295 = .ok (.goto 1039, 3) := by decide +kernel
theorem dL_law_1298 : decode cL_law 1298 = .ok (.aload_n 1, 1) := by decide +kernel
theorem dL_law_1299 : decode cL_law 1299 = .ok (.aload_n 0, 1) := by decide +kernel
theorem dL_law_1300 : decode cL_law 1300 = .ok (.iload 4, 2) := by decide +kernel
theorem dL_law_1302 : decode cL_law 1302 = .ok (.iconst 1, 1) := by decide +kernel
theorem dL_law_1303 : decode cL_law 1303 = .ok (.iadd, 1) := by decide +kernel
theorem dL_law_1304 : decode cL_law 1304 = .ok (.iaload, 1) := by decide +kernel
theorem dL_law_1305 : decode cL_law 1305 = .ok (.aload_n 3, 1) := by decide +kernel
theorem dL_law_1306 : decode cL_law 1306 = .ok (.invokestatic 213, 3) := by decide +kernel
theorem dL_law_1309 : decode cL_law 1309 = .ok (.istore 5, 2) := by decide +kernel
theorem dL_law_1311 : decode cL_law 1311 = .ok (.aload_n 2, 1) := by decide +kernel
theorem dL_law_1312 : decode cL_law 1312 = .ok (.aload_n 0, 1) := by decide +kernel
theorem dL_law_1313 : decode cL_law 1313 = .ok (.iload 4, 2) := by decide +kernel
theorem dL_law_1315 : decode cL_law 1315 = .ok (.iconst 1, 1) := by decide +kernel
theorem dL_law_1316 : decode cL_law 1316 = .ok (.iadd, 1) := by decide +kernel
theorem dL_law_1317 : decode cL_law 1317 = .ok (.iaload, 1) := by decide +kernel
theorem dL_law_1318 : decode cL_law 1318 = .ok (.invokevirtual 215, 3) := by decide +kernel
theorem dL_law_1321 : decode cL_law 1321 = .ok (.istore 6, 2) := by decide +kernel
theorem dL_law_1323 : decode cL_law 1323 = .ok (.aload_n 2, 1) := by decide +kernel
theorem dL_law_1324 : decode cL_law 1324 = .ok (.invokevirtual 117, 3) := by decide +kernel
theorem dL_law_1327 : decode cL_law 1327 = .ok (.iload 5, 2) := by decide +kernel
theorem dL_law_1329 : decode cL_law 1329 = .ok (.if_icmp .eq 5, 3) := by decide +kernel
theorem dL_law_1332 : decode cL_law 1332 = .ok (.iconst 0, 1) := by decide +kernel
theorem dL_law_1333 : decode cL_law 1333 = .ok (.ireturn, 1) := by decide +kernel
theorem dL_law_1334 : decode cL_law 1334 = .ok (.iload 5, 2) := by decide +kernel
theorem dL_law_1336 : decode cL_law 1336 = .ok (.ifCond .ne 15, 3) := by decide +kernel
theorem dL_law_1339 : decode cL_law 1339 = .ok (.aload_n 3, 1) := by decide +kernel
theorem dL_law_1340 : decode cL_law 1340 = .ok (.iconst 0, 1) := by decide +kernel
theorem dL_law_1341 : decode cL_law 1341 = .ok (.laload, 1) := by decide +kernel
theorem dL_law_1342 : decode cL_law 1342 = .ok (.iload 6, 2) := by decide +kernel
theorem dL_law_1344 : decode cL_law 1344 = .ok (.i2l, 1) := by decide +kernel
theorem dL_law_1345 : decode cL_law 1345 = .ok (.lcmp, 1) := by decide +kernel
theorem dL_law_1346 : decode cL_law 1346 = .ok (.ifCond .eq 5, 3) := by decide +kernel
theorem dL_law_1349 : decode cL_law 1349 = .ok (.iconst 0, 1) := by decide +kernel
theorem dL_law_1350 : decode cL_law 1350 = .ok (.ireturn, 1) := by decide +kernel
theorem dL_law_1351 : decode cL_law 1351 = .ok (.goto 983, 3) := by decide +kernel
theorem dL_law_1354 : decode cL_law 1354 = .ok (.aload_n 1, 1) := by decide +kernel
theorem dL_law_1355 : decode cL_law 1355 = .ok (.invokevirtual 216, 3) := by decide +kernel
theorem dL_law_1358 : decode cL_law 1358 = .ok (.aload_n 2, 1) := by decide +kernel
theorem dL_law_1359 : decode cL_law 1359 = .ok (.invokevirtual 219, 3) := by decide +kernel
theorem dL_law_1362 : decode cL_law 1362 = .ok (.if_icmp .eq 972, 3) := by decide +kernel
theorem dL_law_1365 : decode cL_law 1365 = .ok (.iconst 0, 1) := by decide +kernel
theorem dL_law_1366 : decode cL_law 1366 = .ok (.ireturn, 1) := by decide +kernel
theorem dL_law_1367 : decode cL_law 1367 = .ok (.aload_n 1, 1) := by decide +kernel
theorem dL_law_1368 : decode cL_law 1368 = .ok (.invokevirtual 220, 3) := by decide +kernel
theorem dL_law_1371 : decode cL_law 1371 = .ok (.aload_n 2, 1) := by decide +kernel
theorem dL_law_1372 : decode cL_law 1372 = .ok (.invokevirtual 223, 3) := by decide +kernel
theorem dL_law_1375 : decode cL_law 1375 = .ok (.if_icmp .eq 959, 3) := by decide +kernel
theorem dL_law_1378 : decode cL_law 1378 = .ok (.iconst 0, 1) := by decide +kernel
theorem dL_law_1379 : decode cL_law 1379 = .ok (.ireturn, 1) := by decide +kernel
theorem dL_law_1380 : decode cL_law 1380 = .ok (.aload_n 1, 1) := by decide +kernel
theorem dL_law_1381 : decode cL_law 1381 = .ok (.aload_n 0, 1) := by decide +kernel
theorem dL_law_1382 : decode cL_law 1382 = .ok (.iload 4, 2) := by decide +kernel
theorem dL_law_1384 : decode cL_law 1384 = .ok (.iconst 1, 1) := by decide +kernel
theorem dL_law_1385 : decode cL_law 1385 = .ok (.iadd, 1) := by decide +kernel
theorem dL_law_1386 : decode cL_law 1386 = .ok (.iaload, 1) := by decide +kernel
theorem dL_law_1387 : decode cL_law 1387 = .ok (.aload_n 3, 1) := by decide +kernel
theorem dL_law_1388 : decode cL_law 1388 = .ok (.invokestatic 224, 3) := by decide +kernel
theorem dL_law_1391 : decode cL_law 1391 = .ok (.istore 5, 2) := by decide +kernel
theorem dL_law_1393 : decode cL_law 1393 = .ok (.aload_n 2, 1) := by decide +kernel
theorem dL_law_1394 : decode cL_law 1394 = .ok (.aload_n 0, 1) := by decide +kernel
theorem dL_law_1395 : decode cL_law 1395 = .ok (.iload 4, 2) := by decide +kernel
theorem dL_law_1397 : decode cL_law 1397 = .ok (.iconst 1, 1) := by decide +kernel
theorem dL_law_1398 : decode cL_law 1398 = .ok (.iadd, 1) := by decide +kernel
theorem dL_law_1399 : decode cL_law 1399 = .ok (.iaload, 1) := by decide +kernel
theorem dL_law_1400 : decode cL_law 1400 = .ok (.invokevirtual 226, 3) := by decide +kernel
theorem dL_law_1403 : decode cL_law 1403 = .ok (.istore 6, 2) := by decide +kernel
theorem dL_law_1405 : decode cL_law 1405 = .ok (.aload_n 2, 1) := by decide +kernel
theorem dL_law_1406 : decode cL_law 1406 = .ok (.invokevirtual 117, 3) := by decide +kernel
theorem dL_law_1409 : decode cL_law 1409 = .ok (.iload 5, 2) := by decide +kernel
theorem dL_law_1411 : decode cL_law 1411 = .ok (.if_icmp .eq 5, 3) := by decide +kernel
theorem dL_law_1414 : decode cL_law 1414 = .ok (.iconst 0, 1) := by decide +kernel
theorem dL_law_1415 : decode cL_law 1415 = .ok (.ireturn, 1) := by decide +kernel
theorem dL_law_1416 : decode cL_law 1416 = .ok (.iload 5, 2) := by decide +kernel
theorem dL_law_1418 : decode cL_law 1418 = .ok (.ifCond .ne 15, 3) := by decide +kernel
theorem dL_law_1421 : decode cL_law 1421 = .ok (.aload_n 3, 1) := by decide +kernel
theorem dL_law_1422 : decode cL_law 1422 = .ok (.iconst 0, 1) := by decide +kernel
theorem dL_law_1423 : decode cL_law 1423 = .ok (.laload, 1) := by decide +kernel
theorem dL_law_1424 : decode cL_law 1424 = .ok (.iload 6, 2) := by decide +kernel
theorem dL_law_1426 : decode cL_law 1426 = .ok (.i2l, 1) := by decide +kernel
theorem dL_law_1427 : decode cL_law 1427 = .ok (.lcmp, 1) := by decide +kernel
theorem dL_law_1428 : decode cL_law 1428 = .ok (.ifCond .eq 5, 3) := by decide +kernel
theorem dL_law_1431 : decode cL_law 1431 = .ok (.iconst 0, 1) := by decide +kernel
theorem dL_law_1432 : decode cL_law 1432 = .ok (.ireturn, 1) := by decide +kernel
theorem dL_law_1433 : decode cL_law 1433 = .ok (.goto 901, 3) := by decide +kernel
theorem dL_law_1436 : decode cL_law 1436 = .ok (.aload_n 1, 1) := by decide +kernel
theorem dL_law_1437 : decode cL_law 1437 = .ok (.aload_n 0, 1) := by decide +kernel
theorem dL_law_1438 : decode cL_law 1438 = .ok (.iload 4, 2) := by decide +kernel
theorem dL_law_1440 : decode cL_law 1440 = .ok (.iconst 1, 1) := by decide +kernel
theorem dL_law_1441 : decode cL_law 1441 = .ok (.iadd, 1) := by decide +kernel
theorem dL_law_1442 : decode cL_law 1442 = .ok (.iaload, 1) := by decide +kernel
theorem dL_law_1443 : decode cL_law 1443 = .ok (.aload_n 3, 1) := by decide +kernel
theorem dL_law_1444 : decode cL_law 1444 = .ok (.invokestatic 227, 3) := by decide +kernel
theorem dL_law_1447 : decode cL_law 1447 = .ok (.istore 5, 2) := by decide +kernel
theorem dL_law_1449 : decode cL_law 1449 = .ok (.aload_n 2, 1) := by decide +kernel
theorem dL_law_1450 : decode cL_law 1450 = .ok (.aload_n 0, 1) := by decide +kernel
theorem dL_law_1451 : decode cL_law 1451 = .ok (.iload 4, 2) := by decide +kernel
theorem dL_law_1453 : decode cL_law 1453 = .ok (.iconst 1, 1) := by decide +kernel
theorem dL_law_1454 : decode cL_law 1454 = .ok (.iadd, 1) := by decide +kernel
theorem dL_law_1455 : decode cL_law 1455 = .ok (.iaload, 1) := by decide +kernel
theorem dL_law_1456 : decode cL_law 1456 = .ok (.invokevirtual 229, 3) := by decide +kernel
theorem dL_law_1459 : decode cL_law 1459 = .ok (.istore 6, 2) := by decide +kernel
theorem dL_law_1461 : decode cL_law 1461 = .ok (.aload_n 2, 1) := by decide +kernel
theorem dL_law_1462 : decode cL_law 1462 = .ok (.invokevirtual 117, 3) := by decide +kernel
theorem dL_law_1465 : decode cL_law 1465 = .ok (.iload 5, 2) := by decide +kernel
theorem dL_law_1467 : decode cL_law 1467 = .ok (.if_icmp .eq 5, 3) := by decide +kernel
theorem dL_law_1470 : decode cL_law 1470 = .ok (.iconst 0, 1) := by decide +kernel
theorem dL_law_1471 : decode cL_law 1471 = .ok (.ireturn, 1) := by decide +kernel
theorem dL_law_1472 : decode cL_law 1472 = .ok (.iload 5, 2) := by decide +kernel
theorem dL_law_1474 : decode cL_law 1474 = .ok (.ifCond .ne 15, 3) := by decide +kernel
theorem dL_law_1477 : decode cL_law 1477 = .ok (.aload_n 3, 1) := by decide +kernel
theorem dL_law_1478 : decode cL_law 1478 = .ok (.iconst 0, 1) := by decide +kernel
theorem dL_law_1479 : decode cL_law 1479 = .ok (.laload, 1) := by decide +kernel
theorem dL_law_1480 : decode cL_law 1480 = .ok (.iload 6, 2) := by decide +kernel
theorem dL_law_1482 : decode cL_law 1482 = .ok (.i2l, 1) := by decide +kernel
theorem dL_law_1483 : decode cL_law 1483 = .ok (.lcmp, 1) := by decide +kernel
theorem dL_law_1484 : decode cL_law 1484 = .ok (.ifCond .eq 5, 3) := by decide +kernel
theorem dL_law_1487 : decode cL_law 1487 = .ok (.iconst 0, 1) := by decide +kernel
theorem dL_law_1488 : decode cL_law 1488 = .ok (.ireturn, 1) := by decide +kernel
theorem dL_law_1489 : decode cL_law 1489 = .ok (.goto 845, 3) := by decide +kernel
theorem dL_law_1492 : decode cL_law 1492 = .ok (.aload_n 1, 1) := by decide +kernel
theorem dL_law_1493 : decode cL_law 1493 = .ok (.aload_n 0, 1) := by decide +kernel
theorem dL_law_1494 : decode cL_law 1494 = .ok (.iload 4, 2) := by decide +kernel
theorem dL_law_1496 : decode cL_law 1496 = .ok (.iconst 1, 1) := by decide +kernel
theorem dL_law_1497 : decode cL_law 1497 = .ok (.iadd, 1) := by decide +kernel
theorem dL_law_1498 : decode cL_law 1498 = .ok (.iaload, 1) := by decide +kernel
theorem dL_law_1499 : decode cL_law 1499 = .ok (.aload_n 3, 1) := by decide +kernel
theorem dL_law_1500 : decode cL_law 1500 = .ok (.invokestatic 230, 3) := by decide +kernel
theorem dL_law_1503 : decode cL_law 1503 = .ok (.istore 5, 2) := by decide +kernel
theorem dL_law_1505 : decode cL_law 1505 = .ok (.aload_n 2, 1) := by decide +kernel
theorem dL_law_1506 : decode cL_law 1506 = .ok (.aload_n 0, 1) := by decide +kernel
theorem dL_law_1507 : decode cL_law 1507 = .ok (.iload 4, 2) := by decide +kernel
theorem dL_law_1509 : decode cL_law 1509 = .ok (.iconst 1, 1) := by decide +kernel
theorem dL_law_1510 : decode cL_law 1510 = .ok (.iadd, 1) := by decide +kernel
theorem dL_law_1511 : decode cL_law 1511 = .ok (.iaload, 1) := by decide +kernel
theorem dL_law_1512 : decode cL_law 1512 = .ok (.invokevirtual 232, 3) := by decide +kernel
theorem dL_law_1515 : decode cL_law 1515 = .ok (.istore 6, 2) := by decide +kernel
theorem dL_law_1517 : decode cL_law 1517 = .ok (.aload_n 2, 1) := by decide +kernel
theorem dL_law_1518 : decode cL_law 1518 = .ok (.invokevirtual 117, 3) := by decide +kernel
theorem dL_law_1521 : decode cL_law 1521 = .ok (.iload 5, 2) := by decide +kernel
theorem dL_law_1523 : decode cL_law 1523 = .ok (.if_icmp .eq 5, 3) := by decide +kernel
theorem dL_law_1526 : decode cL_law 1526 = .ok (.iconst 0, 1) := by decide +kernel
theorem dL_law_1527 : decode cL_law 1527 = .ok (.ireturn, 1) := by decide +kernel
theorem dL_law_1528 : decode cL_law 1528 = .ok (.iload 5, 2) := by decide +kernel
theorem dL_law_1530 : decode cL_law 1530 = .ok (.ifCond .ne 15, 3) := by decide +kernel
theorem dL_law_1533 : decode cL_law 1533 = .ok (.aload_n 3, 1) := by decide +kernel
theorem dL_law_1534 : decode cL_law 1534 = .ok (.iconst 0, 1) := by decide +kernel
theorem dL_law_1535 : decode cL_law 1535 = .ok (.laload, 1) := by decide +kernel
theorem dL_law_1536 : decode cL_law 1536 = .ok (.iload 6, 2) := by decide +kernel
theorem dL_law_1538 : decode cL_law 1538 = .ok (.i2l, 1) := by decide +kernel
theorem dL_law_1539 : decode cL_law 1539 = .ok (.lcmp, 1) := by decide +kernel
theorem dL_law_1540 : decode cL_law 1540 = .ok (.ifCond .eq 5, 3) := by decide +kernel
theorem dL_law_1543 : decode cL_law 1543 = .ok (.iconst 0, 1) := by decide +kernel
theorem dL_law_1544 : decode cL_law 1544 = .ok (.ireturn, 1) := by decide +kernel
theorem dL_law_1545 : decode cL_law 1545 = .ok (.goto 789, 3) := by decide +kernel
theorem dL_law_1548 : decode cL_law 1548 = .ok (.aload_n 1, 1) := by decide +kernel
theorem dL_law_1549 : decode cL_law 1549 = .ok (.aload_n 0, 1) := by decide +kernel
theorem dL_law_1550 : decode cL_law 1550 = .ok (.iload 4, 2) := by decide +kernel
theorem dL_law_1552 : decode cL_law 1552 = .ok (.iconst 1, 1) := by decide +kernel
theorem dL_law_1553 : decode cL_law 1553 = .ok (.iadd, 1) := by decide +kernel
theorem dL_law_1554 : decode cL_law 1554 = .ok (.iaload, 1) := by decide +kernel
theorem dL_law_1555 : decode cL_law 1555 = .ok (.aload_n 3, 1) := by decide +kernel
theorem dL_law_1556 : decode cL_law 1556 = .ok (.invokestatic 233, 3) := by decide +kernel
theorem dL_law_1559 : decode cL_law 1559 = .ok (.istore 5, 2) := by decide +kernel
theorem dL_law_1561 : decode cL_law 1561 = .ok (.aload_n 2, 1) := by decide +kernel
theorem dL_law_1562 : decode cL_law 1562 = .ok (.aload_n 0, 1) := by decide +kernel
theorem dL_law_1563 : decode cL_law 1563 = .ok (.iload 4, 2) := by decide +kernel
theorem dL_law_1565 : decode cL_law 1565 = .ok (.iconst 1, 1) := by decide +kernel
theorem dL_law_1566 : decode cL_law 1566 = .ok (.iadd, 1) := by decide +kernel
theorem dL_law_1567 : decode cL_law 1567 = .ok (.iaload, 1) := by decide +kernel
theorem dL_law_1568 : decode cL_law 1568 = .ok (.invokevirtual 235, 3) := by decide +kernel
theorem dL_law_1571 : decode cL_law 1571 = .ok (.istore 6, 2) := by decide +kernel
theorem dL_law_1573 : decode cL_law 1573 = .ok (.aload_n 2, 1) := by decide +kernel
theorem dL_law_1574 : decode cL_law 1574 = .ok (.invokevirtual 117, 3) := by decide +kernel
theorem dL_law_1577 : decode cL_law 1577 = .ok (.iload 5, 2) := by decide +kernel
theorem dL_law_1579 : decode cL_law 1579 = .ok (.if_icmp .eq 5, 3) := by decide +kernel
theorem dL_law_1582 : decode cL_law 1582 = .ok (.iconst 0, 1) := by decide +kernel
theorem dL_law_1583 : decode cL_law 1583 = .ok (.ireturn, 1) := by decide +kernel
theorem dL_law_1584 : decode cL_law 1584 = .ok (.iload 5, 2) := by decide +kernel
theorem dL_law_1586 : decode cL_law 1586 = .ok (.ifCond .ne 15, 3) := by decide +kernel
theorem dL_law_1589 : decode cL_law 1589 = .ok (.aload_n 3, 1) := by decide +kernel
theorem dL_law_1590 : decode cL_law 1590 = .ok (.iconst 0, 1) := by decide +kernel
theorem dL_law_1591 : decode cL_law 1591 = .ok (.laload, 1) := by decide +kernel
theorem dL_law_1592 : decode cL_law 1592 = .ok (.iload 6, 2) := by decide +kernel
theorem dL_law_1594 : decode cL_law 1594 = .ok (.i2l, 1) := by decide +kernel
theorem dL_law_1595 : decode cL_law 1595 = .ok (.lcmp, 1) := by decide +kernel
theorem dL_law_1596 : decode cL_law 1596 = .ok (.ifCond .eq 5, 3) := by decide +kernel
theorem dL_law_1599 : decode cL_law 1599 = .ok (.iconst 0, 1) := by decide +kernel
theorem dL_law_1600 : decode cL_law 1600 = .ok (.ireturn, 1) := by decide +kernel
theorem dL_law_1601 : decode cL_law 1601 = .ok (.goto 733, 3) := by decide +kernel
theorem dL_law_1604 : decode cL_law 1604 = .ok (.aload_n 1, 1) := by decide +kernel
theorem dL_law_1605 : decode cL_law 1605 = .ok (.aload_n 0, 1) := by decide +kernel
theorem dL_law_1606 : decode cL_law 1606 = .ok (.iload 4, 2) := by decide +kernel
theorem dL_law_1608 : decode cL_law 1608 = .ok (.iconst 1, 1) := by decide +kernel
theorem dL_law_1609 : decode cL_law 1609 = .ok (.iadd, 1) := by decide +kernel
theorem dL_law_1610 : decode cL_law 1610 = .ok (.iaload, 1) := by decide +kernel
theorem dL_law_1611 : decode cL_law 1611 = .ok (.aload_n 3, 1) := by decide +kernel
theorem dL_law_1612 : decode cL_law 1612 = .ok (.invokestatic 236, 3) := by decide +kernel
theorem dL_law_1615 : decode cL_law 1615 = .ok (.istore 5, 2) := by decide +kernel
theorem dL_law_1617 : decode cL_law 1617 = .ok (.aload_n 2, 1) := by decide +kernel
theorem dL_law_1618 : decode cL_law 1618 = .ok (.aload_n 0, 1) := by decide +kernel
theorem dL_law_1619 : decode cL_law 1619 = .ok (.iload 4, 2) := by decide +kernel
theorem dL_law_1621 : decode cL_law 1621 = .ok (.iconst 1, 1) := by decide +kernel
theorem dL_law_1622 : decode cL_law 1622 = .ok (.iadd, 1) := by decide +kernel
theorem dL_law_1623 : decode cL_law 1623 = .ok (.iaload, 1) := by decide +kernel
theorem dL_law_1624 : decode cL_law 1624 = .ok (.invokevirtual 238, 3) := by decide +kernel
theorem dL_law_1627 : decode cL_law 1627 = .ok (.istore 6, 2) := by decide +kernel
theorem dL_law_1629 : decode cL_law 1629 = .ok (.aload_n 2, 1) := by decide +kernel
theorem dL_law_1630 : decode cL_law 1630 = .ok (.invokevirtual 117, 3) := by decide +kernel
theorem dL_law_1633 : decode cL_law 1633 = .ok (.iload 5, 2) := by decide +kernel
theorem dL_law_1635 : decode cL_law 1635 = .ok (.if_icmp .eq 5, 3) := by decide +kernel
theorem dL_law_1638 : decode cL_law 1638 = .ok (.iconst 0, 1) := by decide +kernel
theorem dL_law_1639 : decode cL_law 1639 = .ok (.ireturn, 1) := by decide +kernel
theorem dL_law_1640 : decode cL_law 1640 = .ok (.iload 5, 2) := by decide +kernel
theorem dL_law_1642 : decode cL_law 1642 = .ok (.ifCond .ne 15, 3) := by decide +kernel
theorem dL_law_1645 : decode cL_law 1645 = .ok (.aload_n 3, 1) := by decide +kernel
theorem dL_law_1646 : decode cL_law 1646 = .ok (.iconst 0, 1) := by decide +kernel
theorem dL_law_1647 : decode cL_law 1647 = .ok (.laload, 1) := by decide +kernel
theorem dL_law_1648 : decode cL_law 1648 = .ok (.iload 6, 2) := by decide +kernel
theorem dL_law_1650 : decode cL_law 1650 = .ok (.i2l, 1) := by decide +kernel
theorem dL_law_1651 : decode cL_law 1651 = .ok (.lcmp, 1) := by decide +kernel
theorem dL_law_1652 : decode cL_law 1652 = .ok (.ifCond .eq 5, 3) := by decide +kernel
theorem dL_law_1655 : decode cL_law 1655 = .ok (.iconst 0, 1) := by decide +kernel
theorem dL_law_1656 : decode cL_law 1656 = .ok (.ireturn, 1) := by decide +kernel
theorem dL_law_1657 : decode cL_law 1657 = .ok (.goto 677, 3) := by decide +kernel
theorem dL_law_1660 : decode cL_law 1660 = .ok (.aload_n 1, 1) := by decide +kernel
theorem dL_law_1661 : decode cL_law 1661 = .ok (.invokevirtual 239, 3) := by decide +kernel
theorem dL_law_1664 : decode cL_law 1664 = .ok (.aload_n 2, 1) := by decide +kernel
theorem dL_law_1665 : decode cL_law 1665 = .ok (.invokevirtual 242, 3) := by decide +kernel
theorem dL_law_1668 : decode cL_law 1668 = .ok (.if_icmp .eq 666, 3) := by decide +kernel
theorem dL_law_1671 : decode cL_law 1671 = .ok (.iconst 0, 1) := by decide +kernel
theorem dL_law_1672 : decode cL_law 1672 = .ok (.ireturn, 1) := by decide +kernel
theorem dL_law_1673 : decode cL_law 1673 = .ok (.aload_n 1, 1) := by decide +kernel
theorem dL_law_1674 : decode cL_law 1674 = .ok (.invokevirtual 243, 3) := by decide +kernel
theorem dL_law_1677 : decode cL_law 1677 = .ok (.aload_n 2, 1) := by decide +kernel
theorem dL_law_1678 : decode cL_law 1678 = .ok (.invokevirtual 246, 3) := by decide +kernel
theorem dL_law_1681 : decode cL_law 1681 = .ok (.if_icmp .eq 653, 3) := by decide +kernel
theorem dL_law_1684 : decode cL_law 1684 = .ok (.iconst 0, 1) := by decide +kernel
theorem dL_law_1685 : decode cL_law 1685 = .ok (.ireturn, 1) := by decide +kernel
theorem dL_law_1686 : decode cL_law 1686 = .ok (.aload_n 1, 1) := by decide +kernel
theorem dL_law_1687 : decode cL_law 1687 = .ok (.aload_n 0, 1) := by decide +kernel
theorem dL_law_1688 : decode cL_law 1688 = .ok (.iload 4, 2) := by decide +kernel
theorem dL_law_1690 : decode cL_law 1690 = .ok (.iconst 1, 1) := by decide +kernel
theorem dL_law_1691 : decode cL_law 1691 = .ok (.iadd, 1) := by decide +kernel
theorem dL_law_1692 : decode cL_law 1692 = .ok (.iaload, 1) := by decide +kernel
theorem dL_law_1693 : decode cL_law 1693 = .ok (.aload_n 3, 1) := by decide +kernel
theorem dL_law_1694 : decode cL_law 1694 = .ok (.invokestatic 247, 3) := by decide +kernel
theorem dL_law_1697 : decode cL_law 1697 = .ok (.istore 5, 2) := by decide +kernel
theorem dL_law_1699 : decode cL_law 1699 = .ok (.aload_n 2, 1) := by decide +kernel
theorem dL_law_1700 : decode cL_law 1700 = .ok (.aload_n 0, 1) := by decide +kernel
theorem dL_law_1701 : decode cL_law 1701 = .ok (.iload 4, 2) := by decide +kernel
theorem dL_law_1703 : decode cL_law 1703 = .ok (.iconst 1, 1) := by decide +kernel
theorem dL_law_1704 : decode cL_law 1704 = .ok (.iadd, 1) := by decide +kernel
theorem dL_law_1705 : decode cL_law 1705 = .ok (.iaload, 1) := by decide +kernel
theorem dL_law_1706 : decode cL_law 1706 = .ok (.invokevirtual 249, 3) := by decide +kernel
theorem dL_law_1709 : decode cL_law 1709 = .ok (.istore 6, 2) := by decide +kernel
theorem dL_law_1711 : decode cL_law 1711 = .ok (.aload_n 2, 1) := by decide +kernel
theorem dL_law_1712 : decode cL_law 1712 = .ok (.invokevirtual 117, 3) := by decide +kernel
theorem dL_law_1715 : decode cL_law 1715 = .ok (.iload 5, 2) := by decide +kernel
theorem dL_law_1717 : decode cL_law 1717 = .ok (.if_icmp .eq 5, 3) := by decide +kernel
theorem dL_law_1720 : decode cL_law 1720 = .ok (.iconst 0, 1) := by decide +kernel
theorem dL_law_1721 : decode cL_law 1721 = .ok (.ireturn, 1) := by decide +kernel
theorem dL_law_1722 : decode cL_law 1722 = .ok (.iload 5, 2) := by decide +kernel
theorem dL_law_1724 : decode cL_law 1724 = .ok (.ifCond .ne 15, 3) := by decide +kernel
theorem dL_law_1727 : decode cL_law 1727 = .ok (.aload_n 3, 1) := by decide +kernel
theorem dL_law_1728 : decode cL_law 1728 = .ok (.iconst 0, 1) := by decide +kernel
theorem dL_law_1729 : decode cL_law 1729 = .ok (.laload, 1) := by decide +kernel
theorem dL_law_1730 : decode cL_law 1730 = .ok (.iload 6, 2) := by decide +kernel
theorem dL_law_1732 : decode cL_law 1732 = .ok (.i2l, 1) := by decide +kernel
theorem dL_law_1733 : decode cL_law 1733 = .ok (.lcmp, 1) := by decide +kernel
theorem dL_law_1734 : decode cL_law 1734 = .ok (.ifCond .eq 5, 3) := by decide +kernel
theorem dL_law_1737 : decode cL_law 1737 = .ok (.iconst 0, 1) := by decide +kernel
theorem dL_law_1738 : decode cL_law 1738 = .ok (.ireturn, 1) := by decide +kernel
theorem dL_law_1739 : decode cL_law 1739 = .ok (.goto 595, 3) := by decide +kernel
theorem dL_law_1742 : decode cL_law 1742 = .ok (.aload_n 1, 1) := by decide +kernel
theorem dL_law_1743 : decode cL_law 1743 = .ok (.aload_n 0, 1) := by decide +kernel
theorem dL_law_1744 : decode cL_law 1744 = .ok (.iload 4, 2) := by decide +kernel
theorem dL_law_1746 : decode cL_law 1746 = .ok (.iconst 1, 1) := by decide +kernel
theorem dL_law_1747 : decode cL_law 1747 = .ok (.iadd, 1) := by decide +kernel
theorem dL_law_1748 : decode cL_law 1748 = .ok (.iaload, 1) := by decide +kernel
theorem dL_law_1749 : decode cL_law 1749 = .ok (.aload_n 3, 1) := by decide +kernel
theorem dL_law_1750 : decode cL_law 1750 = .ok (.invokestatic 250, 3) := by decide +kernel
theorem dL_law_1753 : decode cL_law 1753 = .ok (.istore 5, 2) := by decide +kernel
theorem dL_law_1755 : decode cL_law 1755 = .ok (.aload_n 2, 1) := by decide +kernel
theorem dL_law_1756 : decode cL_law 1756 = .ok (.aload_n 0, 1) := by decide +kernel
theorem dL_law_1757 : decode cL_law 1757 = .ok (.iload 4, 2) := by decide +kernel
theorem dL_law_1759 : decode cL_law 1759 = .ok (.iconst 1, 1) := by decide +kernel
theorem dL_law_1760 : decode cL_law 1760 = .ok (.iadd, 1) := by decide +kernel
theorem dL_law_1761 : decode cL_law 1761 = .ok (.iaload, 1) := by decide +kernel
theorem dL_law_1762 : decode cL_law 1762 = .ok (.invokevirtual 252, 3) := by decide +kernel
theorem dL_law_1765 : decode cL_law 1765 = .ok (.istore 6, 2) := by decide +kernel
theorem dL_law_1767 : decode cL_law 1767 = .ok (.aload_n 2, 1) := by decide +kernel
theorem dL_law_1768 : decode cL_law 1768 = .ok (.invokevirtual 117, 3) := by decide +kernel
theorem dL_law_1771 : decode cL_law 1771 = .ok (.iload 5, 2) := by decide +kernel
theorem dL_law_1773 : decode cL_law 1773 = .ok (.if_icmp .eq 5, 3) := by decide +kernel
theorem dL_law_1776 : decode cL_law 1776 = .ok (.iconst 0, 1) := by decide +kernel
theorem dL_law_1777 : decode cL_law 1777 = .ok (.ireturn, 1) := by decide +kernel
theorem dL_law_1778 : decode cL_law 1778 = .ok (.iload 5, 2) := by decide +kernel
theorem dL_law_1780 : decode cL_law 1780 = .ok (.ifCond .ne 15, 3) := by decide +kernel
theorem dL_law_1783 : decode cL_law 1783 = .ok (.aload_n 3, 1) := by decide +kernel
theorem dL_law_1784 : decode cL_law 1784 = .ok (.iconst 0, 1) := by decide +kernel
theorem dL_law_1785 : decode cL_law 1785 = .ok (.laload, 1) := by decide +kernel
theorem dL_law_1786 : decode cL_law 1786 = .ok (.iload 6, 2) := by decide +kernel
theorem dL_law_1788 : decode cL_law 1788 = .ok (.i2l, 1) := by decide +kernel
theorem dL_law_1789 : decode cL_law 1789 = .ok (.lcmp, 1) := by decide +kernel
theorem dL_law_1790 : decode cL_law 1790 = .ok (.ifCond .eq 5, 3) := by decide +kernel
theorem dL_law_1793 : decode cL_law 1793 = .ok (.iconst 0, 1) := by decide +kernel
theorem dL_law_1794 : decode cL_law 1794 = .ok (.ireturn, 1) := by decide +kernel
theorem dL_law_1795 : decode cL_law 1795 = .ok (.goto 539, 3) := by decide +kernel
theorem dL_law_1798 : decode cL_law 1798 = .ok (.aload_n 1, 1) := by decide +kernel
theorem dL_law_1799 : decode cL_law 1799 = .ok (.aload_n 0, 1) := by decide +kernel
theorem dL_law_1800 : decode cL_law 1800 = .ok (.iload 4, 2) := by decide +kernel
theorem dL_law_1802 : decode cL_law 1802 = .ok (.iconst 1, 1) := by decide +kernel
theorem dL_law_1803 : decode cL_law 1803 = .ok (.iadd, 1) := by decide +kernel
theorem dL_law_1804 : decode cL_law 1804 = .ok (.iaload, 1) := by decide +kernel
theorem dL_law_1805 : decode cL_law 1805 = .ok (.aload_n 3, 1) := by decide +kernel
theorem dL_law_1806 : decode cL_law 1806 = .ok (.invokestatic 253, 3) := by decide +kernel
theorem dL_law_1809 : decode cL_law 1809 = .ok (.istore 5, 2) := by decide +kernel
theorem dL_law_1811 : decode cL_law 1811 = .ok (.aload_n 2, 1) := by decide +kernel
theorem dL_law_1812 : decode cL_law 1812 = .ok (.aload_n 0, 1) := by decide +kernel
theorem dL_law_1813 : decode cL_law 1813 = .ok (.iload 4, 2) := by decide +kernel
theorem dL_law_1815 : decode cL_law 1815 = .ok (.iconst 1, 1) := by decide +kernel
theorem dL_law_1816 : decode cL_law 1816 = .ok (.iadd, 1) := by decide +kernel
theorem dL_law_1817 : decode cL_law 1817 = .ok (.iaload, 1) := by decide +kernel
theorem dL_law_1818 : decode cL_law 1818 = .ok (.invokevirtual 255, 3) := by decide +kernel
theorem dL_law_1821 : decode cL_law 1821 = .ok (.istore 6, 2) := by decide +kernel
theorem dL_law_1823 : decode cL_law 1823 = .ok (.aload_n 2, 1) := by decide +kernel
theorem dL_law_1824 : decode cL_law 1824 = .ok (.invokevirtual 117, 3) := by decide +kernel
theorem dL_law_1827 : decode cL_law 1827 = .ok (.iload 5, 2) := by decide +kernel
theorem dL_law_1829 : decode cL_law 1829 = .ok (.if_icmp .eq 5, 3) := by decide +kernel
theorem dL_law_1832 : decode cL_law 1832 = .ok (.iconst 0, 1) := by decide +kernel
theorem dL_law_1833 : decode cL_law 1833 = .ok (.ireturn, 1) := by decide +kernel
theorem dL_law_1834 : decode cL_law 1834 = .ok (.iload 5, 2) := by decide +kernel
theorem dL_law_1836 : decode cL_law 1836 = .ok (.ifCond .ne 15, 3) := by decide +kernel
theorem dL_law_1839 : decode cL_law 1839 = .ok (.aload_n 3, 1) := by decide +kernel
theorem dL_law_1840 : decode cL_law 1840 = .ok (.iconst 0, 1) := by decide +kernel
theorem dL_law_1841 : decode cL_law 1841 = .ok (.laload, 1) := by decide +kernel
theorem dL_law_1842 : decode cL_law 1842 = .ok (.iload 6, 2) := by decide +kernel
theorem dL_law_1844 : decode cL_law 1844 = .ok (.i2l, 1) := by decide +kernel
theorem dL_law_1845 : decode cL_law 1845 = .ok (.lcmp, 1) := by decide +kernel
theorem dL_law_1846 : decode cL_law 1846 = .ok (.ifCond .eq 5, 3) := by decide +kernel
theorem dL_law_1849 : decode cL_law 1849 = .ok (.iconst 0, 1) := by decide +kernel
theorem dL_law_1850 : decode cL_law 1850 = .ok (.ireturn, 1) := by decide +kernel
theorem dL_law_1851 : decode cL_law 1851 = .ok (.goto 483, 3) := by decide +kernel
theorem dL_law_1854 : decode cL_law 1854 = .ok (.aload_n 1, 1) := by decide +kernel
theorem dL_law_1855 : decode cL_law 1855 = .ok (.aload_n 0, 1) := by decide +kernel
theorem dL_law_1856 : decode cL_law 1856 = .ok (.iload 4, 2) := by decide +kernel
theorem dL_law_1858 : decode cL_law 1858 = .ok (.iconst 1, 1) := by decide +kernel
theorem dL_law_1859 : decode cL_law 1859 = .ok (.iadd, 1) := by decide +kernel
theorem dL_law_1860 : decode cL_law 1860 = .ok (.iaload, 1) := by decide +kernel
theorem dL_law_1861 : decode cL_law 1861 = .ok (.aload_n 3, 1) := by decide +kernel
theorem dL_law_1862 : decode cL_law 1862 = .ok (.invokestatic 256, 3) := by decide +kernel
theorem dL_law_1865 : decode cL_law 1865 = .ok (.istore 5, 2) := by decide +kernel
theorem dL_law_1867 : decode cL_law 1867 = .ok (.aload_n 2, 1) := by decide +kernel
theorem dL_law_1868 : decode cL_law 1868 = .ok (.aload_n 0, 1) := by decide +kernel
theorem dL_law_1869 : decode cL_law 1869 = .ok (.iload 4, 2) := by decide +kernel
theorem dL_law_1871 : decode cL_law 1871 = .ok (.iconst 1, 1) := by decide +kernel
theorem dL_law_1872 : decode cL_law 1872 = .ok (.iadd, 1) := by decide +kernel
theorem dL_law_1873 : decode cL_law 1873 = .ok (.iaload, 1) := by decide +kernel
theorem dL_law_1874 : decode cL_law 1874 = .ok (.invokevirtual 258, 3) := by decide +kernel
theorem dL_law_1877 : decode cL_law 1877 = .ok (.istore 6, 2) := by decide +kernel
theorem dL_law_1879 : decode cL_law 1879 = .ok (.aload_n 2, 1) := by decide +kernel
theorem dL_law_1880 : decode cL_law 1880 = .ok (.invokevirtual 117, 3) := by decide +kernel
theorem dL_law_1883 : decode cL_law 1883 = .ok (.iload 5, 2) := by decide +kernel
theorem dL_law_1885 : decode cL_law 1885 = .ok (.if_icmp .eq 5, 3) := by decide +kernel
theorem dL_law_1888 : decode cL_law 1888 = .ok (.iconst 0, 1) := by decide +kernel
theorem dL_law_1889 : decode cL_law 1889 = .ok (.ireturn, 1) := by decide +kernel
theorem dL_law_1890 : decode cL_law 1890 = .ok (.iload 5, 2) := by decide +kernel
theorem dL_law_1892 : decode cL_law 1892 = .ok (.ifCond .ne 15, 3) := by decide +kernel
theorem dL_law_1895 : decode cL_law 1895 = .ok (.aload_n 3, 1) := by decide +kernel
theorem dL_law_1896 : decode cL_law 1896 = .ok (.iconst 0, 1) := by decide +kernel
theorem dL_law_1897 : decode cL_law 1897 = .ok (.laload, 1) := by decide +kernel
theorem dL_law_1898 : decode cL_law 1898 = .ok (.iload 6, 2) := by decide +kernel
theorem dL_law_1900 : decode cL_law 1900 = .ok (.i2l, 1) := by decide +kernel
theorem dL_law_1901 : decode cL_law 1901 = .ok (.lcmp, 1) := by decide +kernel
theorem dL_law_1902 : decode cL_law 1902 = .ok (.ifCond .eq 5, 3) := by decide +kernel
theorem dL_law_1905 : decode cL_law 1905 = .ok (.iconst 0, 1) := by decide +kernel
theorem dL_law_1906 : decode cL_law 1906 = .ok (.ireturn, 1) := by decide +kernel
theorem dL_law_1907 : decode cL_law 1907 = .ok (.goto 427, 3) := by decide +kernel
theorem dL_law_1910 : decode cL_law 1910 = .ok (.aload_n 1, 1) := by decide +kernel
theorem dL_law_1911 : decode cL_law 1911 = .ok (.aload_n 0, 1) := by decide +kernel
theorem dL_law_1912 : decode cL_law 1912 = .ok (.iload 4, 2) := by decide +kernel
theorem dL_law_1914 : decode cL_law 1914 = .ok (.iconst 1, 1) := by decide +kernel
theorem dL_law_1915 : decode cL_law 1915 = .ok (.iadd, 1) := by decide +kernel
theorem dL_law_1916 : decode cL_law 1916 = .ok (.iaload, 1) := by decide +kernel
theorem dL_law_1917 : decode cL_law 1917 = .ok (.aload_n 3, 1) := by decide +kernel
theorem dL_law_1918 : decode cL_law 1918 = .ok (.invokestatic 259, 3) := by decide +kernel
theorem dL_law_1921 : decode cL_law 1921 = .ok (.istore 5, 2) := by decide +kernel
theorem dL_law_1923 : decode cL_law 1923 = .ok (.aload_n 2, 1) := by decide +kernel
theorem dL_law_1924 : decode cL_law 1924 = .ok (.aload_n 0, 1) := by decide +kernel
theorem dL_law_1925 : decode cL_law 1925 = .ok (.iload 4, 2) := by decide +kernel
theorem dL_law_1927 : decode cL_law 1927 = .ok (.iconst 1, 1) := by decide +kernel
theorem dL_law_1928 : decode cL_law 1928 = .ok (.iadd, 1) := by decide +kernel
theorem dL_law_1929 : decode cL_law 1929 = .ok (.iaload, 1) := by decide +kernel
theorem dL_law_1930 : decode cL_law 1930 = .ok (.invokevirtual 261, 3) := by decide +kernel
theorem dL_law_1933 : decode cL_law 1933 = .ok (.istore 6, 2) := by decide +kernel
theorem dL_law_1935 : decode cL_law 1935 = .ok (.aload_n 2, 1) := by decide +kernel
theorem dL_law_1936 : decode cL_law 1936 = .ok (.invokevirtual 117, 3) := by decide +kernel
theorem dL_law_1939 : decode cL_law 1939 = .ok (.iload 5, 2) := by decide +kernel
theorem dL_law_1941 : decode cL_law 1941 = .ok (.if_icmp .eq 5, 3) := by decide +kernel
theorem dL_law_1944 : decode cL_law 1944 = .ok (.iconst 0, 1) := by decide +kernel
theorem dL_law_1945 : decode cL_law 1945 = .ok (.ireturn, 1) := by decide +kernel
theorem dL_law_1946 : decode cL_law 1946 = .ok (.iload 5, 2) := by decide +kernel
theorem dL_law_1948 : decode cL_law 1948 = .ok (.ifCond .ne 15, 3) := by decide +kernel
theorem dL_law_1951 : decode cL_law 1951 = .ok (.aload_n 3, 1) := by decide +kernel
theorem dL_law_1952 : decode cL_law 1952 = .ok (.iconst 0, 1) := by decide +kernel
theorem dL_law_1953 : decode cL_law 1953 = .ok (.laload, 1) := by decide +kernel
theorem dL_law_1954 : decode cL_law 1954 = .ok (.iload 6, 2) := by decide +kernel
theorem dL_law_1956 : decode cL_law 1956 = .ok (.i2l, 1) := by decide +kernel
theorem dL_law_1957 : decode cL_law 1957 = .ok (.lcmp, 1) := by decide +kernel
theorem dL_law_1958 : decode cL_law 1958 = .ok (.ifCond .eq 5, 3) := by decide +kernel
theorem dL_law_1961 : decode cL_law 1961 = .ok (.iconst 0, 1) := by decide +kernel
theorem dL_law_1962 : decode cL_law 1962 = .ok (.ireturn, 1) := by decide +kernel
theorem dL_law_1963 : decode cL_law 1963 = .ok (.goto 371, 3) := by decide +kernel
theorem dL_law_1966 : decode cL_law 1966 = .ok (.aload_n 1, 1) := by decide +kernel
theorem dL_law_1967 : decode cL_law 1967 = .ok (.aload_n 0, 1) := by decide +kernel
theorem dL_law_1968 : decode cL_law 1968 = .ok (.iload 4, 2) := by decide +kernel
theorem dL_law_1970 : decode cL_law 1970 = .ok (.iconst 1, 1) := by decide +kernel
theorem dL_law_1971 : decode cL_law 1971 = .ok (.iadd, 1) := by decide +kernel
theorem dL_law_1972 : decode cL_law 1972 = .ok (.iaload, 1) := by decide +kernel
theorem dL_law_1973 : decode cL_law 1973 = .ok (.aload_n 3, 1) := by decide +kernel
theorem dL_law_1974 : decode cL_law 1974 = .ok (.invokestatic 262, 3) := by decide +kernel
theorem dL_law_1977 : decode cL_law 1977 = .ok (.istore 5, 2) := by decide +kernel
theorem dL_law_1979 : decode cL_law 1979 = .ok (.aload_n 2, 1) := by decide +kernel
theorem dL_law_1980 : decode cL_law 1980 = .ok (.aload_n 0, 1) := by decide +kernel
theorem dL_law_1981 : decode cL_law 1981 = .ok (.iload 4, 2) := by decide +kernel
theorem dL_law_1983 : decode cL_law 1983 = .ok (.iconst 1, 1) := by decide +kernel
theorem dL_law_1984 : decode cL_law 1984 = .ok (.iadd, 1) := by decide +kernel
theorem dL_law_1985 : decode cL_law 1985 = .ok (.iaload, 1) := by decide +kernel
theorem dL_law_1986 : decode cL_law 1986 = .ok (.invokevirtual 264, 3) := by decide +kernel
theorem dL_law_1989 : decode cL_law 1989 = .ok (.istore 6, 2) := by decide +kernel
theorem dL_law_1991 : decode cL_law 1991 = .ok (.aload_n 2, 1) := by decide +kernel
theorem dL_law_1992 : decode cL_law 1992 = .ok (.invokevirtual 117, 3) := by decide +kernel
theorem dL_law_1995 : decode cL_law 1995 = .ok (.iload 5, 2) := by decide +kernel
theorem dL_law_1997 : decode cL_law 1997 = .ok (.if_icmp .eq 5, 3) := by decide +kernel
theorem dL_law_2000 : decode cL_law 2000 = .ok (.iconst 0, 1) := by decide +kernel
theorem dL_law_2001 : decode cL_law 2001 = .ok (.ireturn, 1) := by decide +kernel
theorem dL_law_2002 : decode cL_law 2002 = .ok (.iload 5, 2) := by decide +kernel
theorem dL_law_2004 : decode cL_law 2004 = .ok (.ifCond .ne 15, 3) := by decide +kernel
theorem dL_law_2007 : decode cL_law 2007 = .ok (.aload_n 3, 1) := by decide +kernel
theorem dL_law_2008 : decode cL_law 2008 = .ok (.iconst 0, 1) := by decide +kernel
theorem dL_law_2009 : decode cL_law 2009 = .ok (.laload, 1) := by decide +kernel
theorem dL_law_2010 : decode cL_law 2010 = .ok (.iload 6, 2) := by decide +kernel
theorem dL_law_2012 : decode cL_law 2012 = .ok (.i2l, 1) := by decide +kernel
theorem dL_law_2013 : decode cL_law 2013 = .ok (.lcmp, 1) := by decide +kernel
theorem dL_law_2014 : decode cL_law 2014 = .ok (.ifCond .eq 5, 3) := by decide +kernel
theorem dL_law_2017 : decode cL_law 2017 = .ok (.iconst 0, 1) := by decide +kernel
theorem dL_law_2018 : decode cL_law 2018 = .ok (.ireturn, 1) := by decide +kernel
theorem dL_law_2019 : decode cL_law 2019 = .ok (.goto 315, 3) := by decide +kernel
theorem dL_law_2022 : decode cL_law 2022 = .ok (.aload_n 1, 1) := by decide +kernel
theorem dL_law_2023 : decode cL_law 2023 = .ok (.aload_n 0, 1) := by decide +kernel
theorem dL_law_2024 : decode cL_law 2024 = .ok (.iload 4, 2) := by decide +kernel
theorem dL_law_2026 : decode cL_law 2026 = .ok (.iconst 1, 1) := by decide +kernel
theorem dL_law_2027 : decode cL_law 2027 = .ok (.iadd, 1) := by decide +kernel
theorem dL_law_2028 : decode cL_law 2028 = .ok (.iaload, 1) := by decide +kernel
theorem dL_law_2029 : decode cL_law 2029 = .ok (.aload_n 3, 1) := by decide +kernel
theorem dL_law_2030 : decode cL_law 2030 = .ok (.invokestatic 265, 3) := by decide +kernel
theorem dL_law_2033 : decode cL_law 2033 = .ok (.istore 5, 2) := by decide +kernel
theorem dL_law_2035 : decode cL_law 2035 = .ok (.aload_n 2, 1) := by decide +kernel
theorem dL_law_2036 : decode cL_law 2036 = .ok (.aload_n 0, 1) := by decide +kernel
theorem dL_law_2037 : decode cL_law 2037 = .ok (.iload 4, 2) := by decide +kernel
theorem dL_law_2039 : decode cL_law 2039 = .ok (.iconst 1, 1) := by decide +kernel
theorem dL_law_2040 : decode cL_law 2040 = .ok (.iadd, 1) := by decide +kernel
theorem dL_law_2041 : decode cL_law 2041 = .ok (.iaload, 1) := by decide +kernel
theorem dL_law_2042 : decode cL_law 2042 = .ok (.invokevirtual 267, 3) := by decide +kernel
theorem dL_law_2045 : decode cL_law 2045 = .ok (.istore 6, 2) := by decide +kernel
theorem dL_law_2047 : decode cL_law 2047 = .ok (.aload_n 2, 1) := by decide +kernel
theorem dL_law_2048 : decode cL_law 2048 = .ok (.invokevirtual 117, 3) := by decide +kernel
theorem dL_law_2051 : decode cL_law 2051 = .ok (.iload 5, 2) := by decide +kernel
theorem dL_law_2053 : decode cL_law 2053 = .ok (.if_icmp .eq 5, 3) := by decide +kernel
theorem dL_law_2056 : decode cL_law 2056 = .ok (.iconst 0, 1) := by decide +kernel
theorem dL_law_2057 : decode cL_law 2057 = .ok (.ireturn, 1) := by decide +kernel
theorem dL_law_2058 : decode cL_law 2058 = .ok (.iload 5, 2) := by decide +kernel
theorem dL_law_2060 : decode cL_law 2060 = .ok (.ifCond .ne 15, 3) := by decide +kernel
theorem dL_law_2063 : decode cL_law 2063 = .ok (.aload_n 3, 1) := by decide +kernel
theorem dL_law_2064 : decode cL_law 2064 = .ok (.iconst 0, 1) := by decide +kernel
theorem dL_law_2065 : decode cL_law 2065 = .ok (.laload, 1) := by decide +kernel
theorem dL_law_2066 : decode cL_law 2066 = .ok (.iload 6, 2) := by decide +kernel
theorem dL_law_2068 : decode cL_law 2068 = .ok (.i2l, 1) := by decide +kernel
theorem dL_law_2069 : decode cL_law 2069 = .ok (.lcmp, 1) := by decide +kernel
theorem dL_law_2070 : decode cL_law 2070 = .ok (.ifCond .eq 5, 3) := by decide +kernel
theorem dL_law_2073 : decode cL_law 2073 = .ok (.iconst 0, 1) := by decide +kernel
theorem dL_law_2074 : decode cL_law 2074 = .ok (.ireturn, 1) := by decide +kernel
theorem dL_law_2075 : decode cL_law 2075 = .ok (.goto 259, 3) := by decide +kernel
theorem dL_law_2078 : decode cL_law 2078 = .ok (.aload_n 1, 1) := by decide +kernel
theorem dL_law_2079 : decode cL_law 2079 = .ok (.aload_n 0, 1) := by decide +kernel
theorem dL_law_2080 : decode cL_law 2080 = .ok (.iload 4, 2) := by decide +kernel
theorem dL_law_2082 : decode cL_law 2082 = .ok (.iconst 1, 1) := by decide +kernel
theorem dL_law_2083 : decode cL_law 2083 = .ok (.iadd, 1) := by decide +kernel
theorem dL_law_2084 : decode cL_law 2084 = .ok (.iaload, 1) := by decide +kernel
theorem dL_law_2085 : decode cL_law 2085 = .ok (.aload_n 3, 1) := by decide +kernel
theorem dL_law_2086 : decode cL_law 2086 = .ok (.invokestatic 268, 3) := by decide +kernel
theorem dL_law_2089 : decode cL_law 2089 = .ok (.istore 5, 2) := by decide +kernel
theorem dL_law_2091 : decode cL_law 2091 = .ok (.aload_n 2, 1) := by decide +kernel
theorem dL_law_2092 : decode cL_law 2092 = .ok (.aload_n 0, 1) := by decide +kernel
theorem dL_law_2093 : decode cL_law 2093 = .ok (.iload 4, 2) := by decide +kernel
theorem dL_law_2095 : decode cL_law 2095 = .ok (.iconst 1, 1) := by decide +kernel
theorem dL_law_2096 : decode cL_law 2096 = .ok (.iadd, 1) := by decide +kernel
theorem dL_law_2097 : decode cL_law 2097 = .ok (.iaload, 1) := by decide +kernel
theorem dL_law_2098 : decode cL_law 2098 = .ok (.invokevirtual 270, 3) := by decide +kernel
theorem dL_law_2101 : decode cL_law 2101 = .ok (.istore 6, 2) := by decide +kernel
theorem dL_law_2103 : decode cL_law 2103 = .ok (.aload_n 2, 1) := by decide +kernel
theorem dL_law_2104 : decode cL_law 2104 = .ok (.invokevirtual 117, 3) := by decide +kernel
theorem dL_law_2107 : decode cL_law 2107 = .ok (.iload 5, 2) := by decide +kernel
theorem dL_law_2109 : decode cL_law 2109 = .ok (.if_icmp .eq 5, 3) := by decide +kernel
theorem dL_law_2112 : decode cL_law 2112 = .ok (.iconst 0, 1) := by decide +kernel
theorem dL_law_2113 : decode cL_law 2113 = .ok (.ireturn, 1) := by decide +kernel
theorem dL_law_2114 : decode cL_law 2114 = .ok (.iload 5, 2) := by decide +kernel
theorem dL_law_2116 : decode cL_law 2116 = .ok (.ifCond .ne 15, 3) := by decide +kernel
theorem dL_law_2119 : decode cL_law 2119 = .ok (.aload_n 3, 1) := by decide +kernel
theorem dL_law_2120 : decode cL_law 2120 = .ok (.iconst 0, 1) := by decide +kernel
theorem dL_law_2121 : decode cL_law 2121 = .ok (.laload, 1) := by decide +kernel
theorem dL_law_2122 : decode cL_law 2122 = .ok (.iload 6, 2) := by decide +kernel
theorem dL_law_2124 : decode cL_law 2124 = .ok (.i2l, 1) := by decide +kernel
theorem dL_law_2125 : decode cL_law 2125 = .ok (.lcmp, 1) := by decide +kernel
theorem dL_law_2126 : decode cL_law 2126 = .ok (.ifCond .eq 5, 3) := by decide +kernel
theorem dL_law_2129 : decode cL_law 2129 = .ok (.iconst 0, 1) := by decide +kernel
theorem dL_law_2130 : decode cL_law 2130 = .ok (.ireturn, 1) := by decide +kernel
theorem dL_law_2131 : decode cL_law 2131 = .ok (.goto 203, 3) := by decide +kernel
theorem dL_law_2134 : decode cL_law 2134 = .ok (.aload_n 1, 1) := by decide +kernel
theorem dL_law_2135 : decode cL_law 2135 = .ok (.invokevirtual 271, 3) := by decide +kernel
theorem dL_law_2138 : decode cL_law 2138 = .ok (.aload_n 2, 1) := by decide +kernel
theorem dL_law_2139 : decode cL_law 2139 = .ok (.invokevirtual 274, 3) := by decide +kernel
theorem dL_law_2142 : decode cL_law 2142 = .ok (.if_icmp .eq 192, 3) := by decide +kernel
theorem dL_law_2145 : decode cL_law 2145 = .ok (.iconst 0, 1) := by decide +kernel
theorem dL_law_2146 : decode cL_law 2146 = .ok (.ireturn, 1) := by decide +kernel
theorem dL_law_2147 : decode cL_law 2147 = .ok (.aload_n 1, 1) := by decide +kernel
theorem dL_law_2148 : decode cL_law 2148 = .ok (.invokevirtual 275, 3) := by decide +kernel
theorem dL_law_2151 : decode cL_law 2151 = .ok (.aload_n 2, 1) := by decide +kernel
theorem dL_law_2152 : decode cL_law 2152 = .ok (.invokevirtual 278, 3) := by decide +kernel
theorem dL_law_2155 : decode cL_law 2155 = .ok (.if_icmp .eq 179, 3) := by decide +kernel
theorem dL_law_2158 : decode cL_law 2158 = .ok (.iconst 0, 1) := by decide +kernel
theorem dL_law_2159 : decode cL_law 2159 = .ok (.ireturn, 1) := by decide +kernel
theorem dL_law_2160 : decode cL_law 2160 = .ok (.aload_n 1, 1) := by decide +kernel
theorem dL_law_2161 : decode cL_law 2161 = .ok (.invokevirtual 279, 3) := by decide +kernel
theorem dL_law_2164 : decode cL_law 2164 = .ok (.aload_n 2, 1) := by decide +kernel
theorem dL_law_2165 : decode cL_law 2165 = .ok (.invokevirtual 282, 3) := by decide +kernel
theorem dL_law_2168 : decode cL_law 2168 = .ok (.if_icmp .eq 166, 3) := by decide +kernel
theorem dL_law_2171 : decode cL_law 2171 = .ok (.iconst 0, 1) := by decide +kernel
theorem dL_law_2172 : decode cL_law 2172 = .ok (.ireturn, 1) := by decide +kernel
theorem dL_law_2173 : decode cL_law 2173 = .ok (.aload_n 1, 1) := by decide +kernel
theorem dL_law_2174 : decode cL_law 2174 = .ok (.invokevirtual 283, 3) := by decide +kernel
theorem dL_law_2177 : decode cL_law 2177 = .ok (.aload_n 2, 1) := by decide +kernel
theorem dL_law_2178 : decode cL_law 2178 = .ok (.invokevirtual 286, 3) := by decide +kernel
theorem dL_law_2181 : decode cL_law 2181 = .ok (.if_icmp .eq 153, 3) := by decide +kernel
theorem dL_law_2184 : decode cL_law 2184 = .ok (.iconst 0, 1) := by decide +kernel
theorem dL_law_2185 : decode cL_law 2185 = .ok (.ireturn, 1) := by decide +kernel
theorem dL_law_2186 : decode cL_law 2186 = .ok (.aload_n 1, 1) := by decide +kernel
theorem dL_law_2187 : decode cL_law 2187 = .ok (.invokevirtual 287, 3) := by decide +kernel
theorem dL_law_2190 : decode cL_law 2190 = .ok (.aload_n 2, 1) := by decide +kernel
theorem dL_law_2191 : decode cL_law 2191 = .ok (.invokevirtual 290, 3) := by decide +kernel
theorem dL_law_2194 : decode cL_law 2194 = .ok (.if_icmp .eq 140, 3) := by decide +kernel
theorem dL_law_2197 : decode cL_law 2197 = .ok (.iconst 0, 1) := by decide +kernel
theorem dL_law_2198 : decode cL_law 2198 = .ok (.ireturn, 1) := by decide +kernel
theorem dL_law_2199 : decode cL_law 2199 = .ok (.aload_n 1, 1) := by decide +kernel
theorem dL_law_2200 : decode cL_law 2200 = .ok (.invokevirtual 291, 3) := by decide +kernel
theorem dL_law_2203 : decode cL_law 2203 = .ok (.dstore 5, 2) := by decide +kernel
theorem dL_law_2205 : decode cL_law 2205 = .ok (.aload_n 2, 1) := by decide +kernel
theorem dL_law_2206 : decode cL_law 2206 = .ok (.invokevirtual 295, 3) := by decide +kernel
theorem dL_law_2209 : decode cL_law 2209 = .ok (.dstore 7, 2) := by decide +kernel
theorem dL_law_2211 : decode cL_law 2211 = .ok (.dload 5, 2) := by decide +kernel
theorem dL_law_2213 : decode cL_law 2213 = .ok (.dload 7, 2) := by decide +kernel
theorem dL_law_2215 : decode cL_law 2215 = .ok (.dcmp .l, 1) := by decide +kernel
theorem dL_law_2216 : decode cL_law 2216 = .ok (.ifCond .eq 21, 3) := by decide +kernel
theorem dL_law_2219 : decode cL_law 2219 = .ok (.dload 5, 2) := by decide +kernel
theorem dL_law_2221 : decode cL_law 2221 = .ok (.dload 5, 2) := by decide +kernel
theorem dL_law_2223 : decode cL_law 2223 = .ok (.dcmp .l, 1) := by decide +kernel
theorem dL_law_2224 : decode cL_law 2224 = .ok (.ifCond .eq 11, 3) := by decide +kernel
theorem dL_law_2227 : decode cL_law 2227 = .ok (.dload 7, 2) := by decide +kernel
theorem dL_law_2229 : decode cL_law 2229 = .ok (.dload 7, 2) := by decide +kernel
theorem dL_law_2231 : decode cL_law 2231 = .ok (.dcmp .l, 1) := by decide +kernel
theorem dL_law_2232 : decode cL_law 2232 = .ok (.ifCond .ne 5, 3) := by decide +kernel
theorem dL_law_2235 : decode cL_law 2235 = .ok (.iconst 0, 1) := by decide +kernel
theorem dL_law_2236 : decode cL_law 2236 = .ok (.ireturn, 1) := by decide +kernel
theorem dL_law_2237 : decode cL_law 2237 = .ok (.goto 97, 3) := by decide +kernel
theorem dL_law_2240 : decode cL_law 2240 = .ok (.aload_n 1, 1) := by decide +kernel
theorem dL_law_2241 : decode cL_law 2241 = .ok (.invokevirtual 296, 3) := by decide +kernel
theorem dL_law_2244 : decode cL_law 2244 = .ok (.f2d, 1) := by decide +kernel
theorem dL_law_2245 : decode cL_law 2245 = .ok (.dstore 5, 2) := by decide +kernel
theorem dL_law_2247 : decode cL_law 2247 = .ok (.aload_n 2, 1) := by decide +kernel
theorem dL_law_2248 : decode cL_law 2248 = .ok (.invokevirtual 300, 3) := by decide +kernel
theorem dL_law_2251 : decode cL_law 2251 = .ok (.f2d, 1) := by decide +kernel
theorem dL_law_2252 : decode cL_law 2252 = .ok (.dstore 7, 2) := by decide +kernel
theorem dL_law_2254 : decode cL_law 2254 = .ok (.dload 5, 2) := by decide +kernel
theorem dL_law_2256 : decode cL_law 2256 = .ok (.dload 7, 2) := by decide +kernel
theorem dL_law_2258 : decode cL_law 2258 = .ok (.dcmp .l, 1) := by decide +kernel
theorem dL_law_2259 : decode cL_law 2259 = .ok (.ifCond .eq 21, 3) := by decide +kernel
theorem dL_law_2262 : decode cL_law 2262 = .ok (.dload 5, 2) := by decide +kernel
theorem dL_law_2264 : decode cL_law 2264 = .ok (.dload 5, 2) := by decide +kernel
theorem dL_law_2266 : decode cL_law 2266 = .ok (.dcmp .l, 1) := by decide +kernel
theorem dL_law_2267 : decode cL_law 2267 = .ok (.ifCond .eq 11, 3) := by decide +kernel
theorem dL_law_2270 : decode cL_law 2270 = .ok (.dload 7, 2) := by decide +kernel
theorem dL_law_2272 : decode cL_law 2272 = .ok (.dload 7, 2) := by decide +kernel
theorem dL_law_2274 : decode cL_law 2274 = .ok (.dcmp .l, 1) := by decide +kernel
theorem dL_law_2275 : decode cL_law 2275 = .ok (.ifCond .ne 5, 3) := by decide +kernel
theorem dL_law_2278 : decode cL_law 2278 = .ok (.iconst 0, 1) := by decide +kernel
theorem dL_law_2279 : decode cL_law 2279 = .ok (.ireturn, 1) := by decide +kernel
theorem dL_law_2280 : decode cL_law 2280 = .ok (.goto 54, 3) := by decide +kernel
theorem dL_law_2283 : decode cL_law 2283 = .ok (.aload_n 1, 1) := by decide +kernel
theorem dL_law_2284 : decode cL_law 2284 = .ok (.invokevirtual 301, 3) := by decide +kernel
theorem dL_law_2287 : decode cL_law 2287 = .ok (.aload_n 2, 1) := by decide +kernel
theorem dL_law_2288 : decode cL_law 2288 = .ok (.invokevirtual 304, 3) := by decide +kernel
theorem dL_law_2291 : decode cL_law 2291 = .ok (.if_icmp .eq 43, 3) := by decide +kernel
theorem dL_law_2294 : decode cL_law 2294 = .ok (.iconst 0, 1) := by decide +kernel
theorem dL_law_2295 : decode cL_law 2295 = .ok (.ireturn, 1) := by decide +kernel
theorem dL_law_2296 : decode cL_law 2296 = .ok (.aload_n 1, 1) := by decide +kernel
theorem dL_law_2297 : decode cL_law 2297 = .ok (.invokevirtual 305, 3) := by decide +kernel
theorem dL_law_2300 : decode cL_law 2300 = .ok (.aload_n 2, 1) := by decide +kernel
theorem dL_law_2301 : decode cL_law 2301 = .ok (.invokevirtual 308, 3) := by decide +kernel
theorem dL_law_2304 : decode cL_law 2304 = .ok (.if_icmp .eq 30, 3) := by decide +kernel
theorem dL_law_2307 : decode cL_law 2307 = .ok (.iconst 0, 1) := by decide +kernel
theorem dL_law_2308 : decode cL_law 2308 = .ok (.ireturn, 1) := by decide +kernel
theorem dL_law_2309 : decode cL_law 2309 = .ok (.aload_n 1, 1) := by decide +kernel
theorem dL_law_2310 : decode cL_law 2310 = .ok (.aload_n 0, 1) := by decide +kernel
theorem dL_law_2311 : decode cL_law 2311 = .ok (.iload 4, 2) := by decide +kernel
theorem dL_law_2313 : decode cL_law 2313 = .ok (.iconst 1, 1) := by decide +kernel
theorem dL_law_2314 : decode cL_law 2314 = .ok (.iadd, 1) := by decide +kernel
theorem dL_law_2315 : decode cL_law 2315 = .ok (.iaload, 1) := by decide +kernel
theorem dL_law_2316 : decode cL_law 2316 = .ok (.invokevirtual 309, 3) := by decide +kernel
theorem dL_law_2319 : decode cL_law 2319 = .ok (.aload_n 2, 1) := by decide +kernel
theorem dL_law_2320 : decode cL_law 2320 = .ok (.aload_n 0, 1) := by decide +kernel
theorem dL_law_2321 : decode cL_law 2321 = .ok (.iload 4, 2) := by decide +kernel
theorem dL_law_2323 : decode cL_law 2323 = .ok (.iconst 1, 1) := by decide +kernel
theorem dL_law_2324 : decode cL_law 2324 = .ok (.iadd, 1) := by decide +kernel
theorem dL_law_2325 : decode cL_law 2325 = .ok (.iaload, 1) := by decide +kernel
theorem dL_law_2326 : decode cL_law 2326 = .ok (.invokevirtual 312, 3) := by decide +kernel
theorem dL_law_2329 : decode cL_law 2329 = .ok (.if_icmp .eq 5, 3) := by decide +kernel
theorem dL_law_2332 : decode cL_law 2332 = .ok (.iconst 0, 1) := by decide +kernel
theorem dL_law_2333 : decode cL_law 2333 = .ok (.ireturn, 1) := by decide +kernel
theorem dL_law_2334 : decode cL_law 2334 = .ok (.iinc 4 6, 3) := by decide +kernel
theorem dL_law_2337 : decode cL_law 2337 = .ok (.goto (-2314), 3) := by decide +kernel
theorem dL_law_2340 : decode cL_law 2340 = .ok (.iconst 1, 1) := by decide +kernel
theorem dL_law_2341 : decode cL_law 2341 = .ok (.ireturn, 1) := by decide +kernel
