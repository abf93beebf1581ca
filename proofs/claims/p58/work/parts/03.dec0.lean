theorem dX2_init_0 : decode cX2_init 0 = .ok (.aload_n 0, 1) := by decide +kernel
theorem dX2_init_1 : decode cX2_init 1 = .ok (.invokespecial 3, 3) := by decide +kernel
theorem dX2_init_4 : decode cX2_init 4 = .ok (.aload_n 0, 1) := by decide +kernel
theorem dX2_init_5 : decode cX2_init 5 = .ok (.bipush 9, 2) := by decide +kernel
theorem dX2_init_7 : decode cX2_init 7 = .ok (.anewarray 9, 3) := by decide +kernel
theorem dX2_init_10 : decode cX2_init 10 = .ok (.putfield 11, 3) := by decide +kernel
theorem dX2_init_13 : decode cX2_init 13 = .ok (.iconst 0, 1) := by decide +kernel
theorem dX2_init_14 : decode cX2_init 14 = .ok (.istore_n 1, 1) := by decide +kernel
theorem dX2_init_15 : decode cX2_init 15 = .ok (.iload_n 1, 1) := by decide +kernel
theorem dX2_init_16 : decode cX2_init 16 = .ok (.bipush 9, 2) := by decide +kernel
theorem dX2_init_18 : decode cX2_init 18 = .ok (.if_icmp .ge 22, 3) := by decide +kernel
theorem dX2_init_21 : decode cX2_init 21 = .ok (.aload_n 0, 1) := by decide +kernel
theorem dX2_init_22 : decode cX2_init 22 = .ok (.getfield 11, 3) := by decide +kernel
theorem dX2_init_25 : decode cX2_init 25 = .ok (.iload_n 1, 1) := by decide +kernel
theorem dX2_init_26 : decode cX2_init 26 = .ok (.new 9, 3) := by decide +kernel
theorem dX2_init_29 : decode cX2_init 29 = .ok (.dup, 1) := by decide +kernel
theorem dX2_init_30 : decode cX2_init 30 = .ok (.invokespecial 15, 3) := by decide +kernel
theorem dX2_init_33 : decode cX2_init 33 = .ok (.aastore, 1) := by decide +kernel
theorem dX2_init_34 : decode cX2_init 34 = .ok (.iinc 1 1, 3) := by decide +kernel
theorem dX2_init_37 : decode cX2_init 37 = .ok (.goto (-22), 3) := by decide +kernel
theorem dX2_init_40 : decode cX2_init 40 = .ok (.return_, 1) := by decide +kernel
theorem dX2_mark_0 : decode cX2_mark 0 = .ok (.aload_n 0, 1) := by decide +kernel
theorem dX2_mark_1 : decode cX2_mark 1 = .ok (.invokevirtual 16, 3) := by decide +kernel
theorem dX2_mark_4 : decode cX2_mark 4 = .ok (.astore_n 2, 1) := by decide +kernel
theorem dX2_mark_5 : decode cX2_mark 5 = .ok (.aload_n 2, 1) := by decide +kernel
theorem dX2_mark_6 : decode cX2_mark 6 = .ok (.ifnull 8, 3) := by decide +kernel
theorem dX2_mark_9 : decode cX2_mark 9 = .ok (.aload_n 2, 1) := by decide +kernel
theorem dX2_mark_10 : decode cX2_mark 10 = .ok (.aload_n 1, 1) := by decide +kernel
theorem dX2_mark_11 : decode cX2_mark 11 = .ok (.invokevirtual 20, 3) := by decide +kernel
theorem dX2_mark_14 : decode cX2_mark 14 = .ok (.return_, 1) := by decide +kernel
theorem dX2_keep_0 : decode cX2_keep 0 = .ok (.aload_n 0, 1) := by decide +kernel
theorem dX2_keep_1 : decode cX2_keep 1 = .ok (.aload_n 0, 1) := by decide +kernel
theorem dX2_keep_2 : decode cX2_keep 2 = .ok (.getfield 24, 3) := by decide +kernel
theorem dX2_keep_5 : decode cX2_keep 5 = .ok (.iconst 1, 1) := by decide +kernel
theorem dX2_keep_6 : decode cX2_keep 6 = .ok (.iadd, 1) := by decide +kernel
theorem dX2_keep_7 : decode cX2_keep 7 = .ok (.bipush 9, 2) := by decide +kernel
theorem dX2_keep_9 : decode cX2_keep 9 = .ok (.if_icmp .ge 12, 3) := by decide +kernel
theorem dX2_keep_12 : decode cX2_keep 12 = .ok (.aload_n 0, 1) := by decide +kernel
theorem dX2_keep_13 : decode cX2_keep 13 = .ok (.getfield 24, 3) := by decide +kernel
theorem dX2_keep_16 : decode cX2_keep 16 = .ok (.iconst 1, 1) := by decide +kernel
theorem dX2_keep_17 : decode cX2_keep 17 = .ok (.iadd, 1) := by decide +kernel
theorem dX2_keep_18 : decode cX2_keep 18 = .ok (.goto 4, 3) := by decide +kernel
theorem dX2_keep_21 : decode cX2_keep 21 = .ok (.iconst 0, 1) := by decide +kernel
theorem dX2_keep_22 : decode cX2_keep 22 = .ok (.putfield 24, 3) := by decide +kernel
theorem dX2_keep_25 : decode cX2_keep 25 = .ok (.aload_n 0, 1) := by decide +kernel
theorem dX2_keep_26 : decode cX2_keep 26 = .ok (.aload_n 0, 1) := by decide +kernel
theorem dX2_keep_27 : decode cX2_keep 27 = .ok (.getfield 28, 3) := by decide +kernel
theorem dX2_keep_30 : decode cX2_keep 30 = .ok (.iconst 1, 1) := by decide +kernel
theorem dX2_keep_31 : decode cX2_keep 31 = .ok (.iadd, 1) := by decide +kernel
theorem dX2_keep_32 : decode cX2_keep 32 = .ok (.bipush 8, 2) := by decide +kernel
theorem dX2_keep_34 : decode cX2_keep 34 = .ok (.invokestatic 31, 3) := by decide +kernel
theorem dX2_keep_37 : decode cX2_keep 37 = .ok (.putfield 28, 3) := by decide +kernel
theorem dX2_keep_40 : decode cX2_keep 40 = .ok (.return_, 1) := by decide +kernel
theorem dX2_takeBack_0 : decode cX2_takeBack 0 = .ok (.aload_n 0, 1) := by decide +kernel
theorem dX2_takeBack_1 : decode cX2_takeBack 1 = .ok (.invokevirtual 16, 3) := by decide +kernel
theorem dX2_takeBack_4 : decode cX2_takeBack 4 = .ok (.astore_n 2, 1) := by decide +kernel
theorem dX2_takeBack_5 : decode cX2_takeBack 5 = .ok (.aload_n 2, 1) := by decide +kernel
theorem dX2_takeBack_6 : decode cX2_takeBack 6 = .ok (.ifnull 8, 3) := by decide +kernel
theorem dX2_takeBack_9 : decode cX2_takeBack 9 = .ok (.aload_n 1, 1) := by decide +kernel
theorem dX2_takeBack_10 : decode cX2_takeBack 10 = .ok (.aload_n 2, 1) := by decide +kernel
theorem dX2_takeBack_11 : decode cX2_takeBack 11 = .ok (.invokevirtual 20, 3) := by decide +kernel
theorem dX2_takeBack_14 : decode cX2_takeBack 14 = .ok (.return_, 1) := by decide +kernel
theorem dX2_goBack_0 : decode cX2_goBack 0 = .ok (.aload_n 0, 1) := by decide +kernel
theorem dX2_goBack_1 : decode cX2_goBack 1 = .ok (.aload_n 0, 1) := by decide +kernel
theorem dX2_goBack_2 : decode cX2_goBack 2 = .ok (.getfield 24, 3) := by decide +kernel
theorem dX2_goBack_5 : decode cX2_goBack 5 = .ok (.ifCond .le 12, 3) := by decide +kernel
theorem dX2_goBack_8 : decode cX2_goBack 8 = .ok (.aload_n 0, 1) := by decide +kernel
theorem dX2_goBack_9 : decode cX2_goBack 9 = .ok (.getfield 24, 3) := by decide +kernel
theorem dX2_goBack_12 : decode cX2_goBack 12 = .ok (.iconst 1, 1) := by decide +kernel
theorem dX2_goBack_13 : decode cX2_goBack 13 = .ok (.isub, 1) := by decide +kernel
theorem dX2_goBack_14 : decode cX2_goBack 14 = .ok (.goto 5, 3) := by decide +kernel
theorem dX2_goBack_17 : decode cX2_goBack 17 = .ok (.bipush 8, 2) := by decide +kernel
theorem dX2_goBack_19 : decode cX2_goBack 19 = .ok (.putfield 24, 3) := by decide +kernel
theorem dX2_goBack_22 : decode cX2_goBack 22 = .ok (.aload_n 0, 1) := by decide +kernel
theorem dX2_goBack_23 : decode cX2_goBack 23 = .ok (.dup, 1) := by decide +kernel
theorem dX2_goBack_24 : decode cX2_goBack 24 = .ok (.getfield 28, 3) := by decide +kernel
theorem dX2_goBack_27 : decode cX2_goBack 27 = .ok (.iconst 1, 1) := by decide +kernel
theorem dX2_goBack_28 : decode cX2_goBack 28 = .ok (.isub, 1) := by decide +kernel
theorem dX2_goBack_29 : decode cX2_goBack 29 = .ok (.putfield 28, 3) := by decide +kernel
theorem dX2_goBack_32 : decode cX2_goBack 32 = .ok (.aload_n 0, 1) := by decide +kernel
theorem dX2_goBack_33 : decode cX2_goBack 33 = .ok (.aload_n 1, 1) := by decide +kernel
theorem dX2_goBack_34 : decode cX2_goBack 34 = .ok (.invokevirtual 37, 3) := by decide +kernel
theorem dX2_goBack_37 : decode cX2_goBack 37 = .ok (.return_, 1) := by decide +kernel
theorem dX2_nextPlace_0 : decode cX2_nextPlace 0 = .ok (.aload_n 0, 1) := by decide +kernel
theorem dX2_nextPlace_1 : decode cX2_nextPlace 1 = .ok (.getfield 24, 3) := by decide +kernel
theorem dX2_nextPlace_4 : decode cX2_nextPlace 4 = .ok (.ifCond .lt 27, 3) := by decide +kernel
theorem dX2_nextPlace_7 : decode cX2_nextPlace 7 = .ok (.aload_n 0, 1) := by decide +kernel
theorem dX2_nextPlace_8 : decode cX2_nextPlace 8 = .ok (.getfield 24, 3) := by decide +kernel
theorem dX2_nextPlace_11 : decode cX2_nextPlace 11 = .ok (.aload_n 0, 1) := by decide +kernel
theorem dX2_nextPlace_12 : decode cX2_nextPlace 12 = .ok (.getfield 11, 3) := by decide +kernel
theorem dX2_nextPlace_15 : decode cX2_nextPlace 15 = .ok (.arraylength, 1) := by decide +kernel
theorem dX2_nextPlace_16 : decode cX2_nextPlace 16 = .ok (.if_icmp .ge 15, 3) := by decide +kernel
theorem dX2_nextPlace_19 : decode cX2_nextPlace 19 = .ok (.aload_n 0, 1) := by decide +kernel
theorem dX2_nextPlace_20 : decode cX2_nextPlace 20 = .ok (.getfield 11, 3) := by decide +kernel
theorem dX2_nextPlace_23 : decode cX2_nextPlace 23 = .ok (.aload_n 0, 1) := by decide +kernel
theorem dX2_nextPlace_24 : decode cX2_nextPlace 24 = .ok (.getfield 24, 3) := by decide +kernel
theorem dX2_nextPlace_27 : decode cX2_nextPlace 27 = .ok (.aaload, 1) := by decide +kernel
theorem dX2_nextPlace_28 : decode cX2_nextPlace 28 = .ok (.goto 4, 3) := by decide +kernel
theorem dX2_nextPlace_31 : decode cX2_nextPlace 31 = .ok (.aconst_null, 1) := by decide +kernel
theorem dX2_nextPlace_32 : decode cX2_nextPlace 32 = .ok (.areturn, 1) := by decide +kernel
theorem dX3_init_0 : decode cX3_init 0 = .ok (.aload_n 0, 1) := by decide +kernel
theorem dX3_init_1 : decode cX3_init 1 = .ok (.invokespecial 3, 3) := by decide +kernel
theorem dX3_init_4 : decode cX3_init 4 = .ok (.aload_n 0, 1) := by decide +kernel
theorem dX3_init_5 : decode cX3_init 5 = .ok (.sipush 600, 3) := by decide +kernel
theorem dX3_init_8 : decode cX3_init 8 = .ok (.newarray .int, 2) := by decide +kernel
theorem dX3_init_10 : decode cX3_init 10 = .ok (.putfield 11, 3) := by decide +kernel
theorem dX3_init_13 : decode cX3_init 13 = .ok (.return_, 1) := by decide +kernel
theorem dX4_init_0 : decode cX4_init 0 = .ok (.aload_n 0, 1) := by decide +kernel
theorem dX4_init_1 : decode cX4_init 1 = .ok (.invokespecial 3, 3) := by decide +kernel
theorem dX4_init_4 : decode cX4_init 4 = .ok (.aload_n 0, 1) := by decide +kernel
theorem dX4_init_5 : decode cX4_init 5 = .ok (.sipush 448, 3) := by decide +kernel
theorem dX4_init_8 : decode cX4_init 8 = .ok (.newarray .int, 2) := by decide +kernel
theorem dX4_init_10 : decode cX4_init 10 = .ok (.putfield 9, 3) := by decide +kernel
theorem dX4_init_13 : decode cX4_init 13 = .ok (.return_, 1) := by decide +kernel
theorem dX5_init_0 : decode cX5_init 0 = .ok (.aload_n 0, 1) := by decide +kernel
theorem dX5_init_1 : decode cX5_init 1 = .ok (.invokespecial 3, 3) := by decide +kernel
theorem dX5_init_4 : decode cX5_init 4 = .ok (.aload_n 0, 1) := by decide +kernel
theorem dX5_init_5 : decode cX5_init 5 = .ok (.new 9, 3) := by decide +kernel
theorem dX5_init_8 : decode cX5_init 8 = .ok (.dup, 1) := by decide +kernel
theorem dX5_init_9 : decode cX5_init 9 = .ok (.invokespecial 11, 3) := by decide +kernel
theorem dX5_init_12 : decode cX5_init 12 = .ok (.putfield 12, 3) := by decide +kernel
theorem dX5_init_15 : decode cX5_init 15 = .ok (.aload_n 0, 1) := by decide +kernel
theorem dX5_init_16 : decode cX5_init 16 = .ok (.iconst 3, 1) := by decide +kernel
theorem dX5_init_17 : decode cX5_init 17 = .ok (.newarray .int, 2) := by decide +kernel
theorem dX5_init_19 : decode cX5_init 19 = .ok (.putfield 18, 3) := by decide +kernel
theorem dX5_init_22 : decode cX5_init 22 = .ok (.aload_n 0, 1) := by decide +kernel
theorem dX5_init_23 : decode cX5_init 23 = .ok (.iconst 2, 1) := by decide +kernel
theorem dX5_init_24 : decode cX5_init 24 = .ok (.newarray .int, 2) := by decide +kernel
theorem dX5_init_26 : decode cX5_init 26 = .ok (.putfield 22, 3) := by decide +kernel
theorem dX5_init_29 : decode cX5_init 29 = .ok (.aload_n 0, 1) := by decide +kernel
theorem dX5_init_30 : decode cX5_init 30 = .ok (.iconst 2, 1) := by decide +kernel
theorem dX5_init_31 : decode cX5_init 31 = .ok (.newarray .int, 2) := by decide +kernel
theorem dX5_init_33 : decode cX5_init 33 = .ok (.putfield 25, 3) := by decide +kernel
theorem dX5_init_36 : decode cX5_init 36 = .ok (.aload_n 0, 1) := by decide +kernel
theorem dX5_init_37 : decode cX5_init 37 = .ok (.iconst (-1), 1) := by decide +kernel
theorem dX5_init_38 : decode cX5_init 38 = .ok (.putfield 28, 3) := by decide +kernel
theorem dX5_init_41 : decode cX5_init 41 = .ok (.aload_n 0, 1) := by decide +kernel
theorem dX5_init_42 : decode cX5_init 42 = .ok (.aload_n 1, 1) := by decide +kernel
theorem dX5_init_43 : decode cX5_init 43 = .ok (.putfield 32, 3) := by decide +kernel
theorem dX5_init_46 : decode cX5_init 46 = .ok (.return_, 1) := by decide +kernel
theorem dX6_init_0 : decode cX6_init 0 = .ok (.aload_n 0, 1) := by decide +kernel
theorem dX6_init_1 : decode cX6_init 1 = .ok (.invokespecial 3, 3) := by decide +kernel
theorem dX6_init_4 : decode cX6_init 4 = .ok (.aload_n 0, 1) := by decide +kernel
theorem dX6_init_5 : decode cX6_init 5 = .ok (.bipush 64, 2) := by decide +kernel
theorem dX6_init_7 : decode cX6_init 7 = .ok (.newarray .int, 2) := by decide +kernel
theorem dX6_init_9 : decode cX6_init 9 = .ok (.putfield 9, 3) := by decide +kernel
theorem dX6_init_12 : decode cX6_init 12 = .ok (.aload_n 0, 1) := by decide +kernel
theorem dX6_init_13 : decode cX6_init 13 = .ok (.bipush 64, 2) := by decide +kernel
theorem dX6_init_15 : decode cX6_init 15 = .ok (.newarray .int, 2) := by decide +kernel
theorem dX6_init_17 : decode cX6_init 17 = .ok (.putfield 15, 3) := by decide +kernel
theorem dX6_init_20 : decode cX6_init 20 = .ok (.aload_n 0, 1) := by decide +kernel
theorem dX6_init_21 : decode cX6_init 21 = .ok (.bipush 64, 2) := by decide +kernel
theorem dX6_init_23 : decode cX6_init 23 = .ok (.newarray .int, 2) := by decide +kernel
theorem dX6_init_25 : decode cX6_init 25 = .ok (.putfield 18, 3) := by decide +kernel
theorem dX6_init_28 : decode cX6_init 28 = .ok (.aload_n 0, 1) := by decide +kernel
theorem dX6_init_29 : decode cX6_init 29 = .ok (.bipush 64, 2) := by decide +kernel
theorem dX6_init_31 : decode cX6_init 31 = .ok (.newarray .int, 2) := by decide +kernel
theorem dX6_init_33 : decode cX6_init 33 = .ok (.putfield 21, 3) := by decide +kernel
theorem dX6_init_36 : decode cX6_init 36 = .ok (.aload_n 0, 1) := by decide +kernel
theorem dX6_init_37 : decode cX6_init 37 = .ok (.bipush 64, 2) := by decide +kernel
theorem dX6_init_39 : decode cX6_init 39 = .ok (.newarray .int, 2) := by decide +kernel
theorem dX6_init_41 : decode cX6_init 41 = .ok (.putfield 24, 3) := by decide +kernel
theorem dX6_init_44 : decode cX6_init 44 = .ok (.aload_n 0, 1) := by decide +kernel
theorem dX6_init_45 : decode cX6_init 45 = .ok (.bipush 8, 2) := by decide +kernel
theorem dX6_init_47 : decode cX6_init 47 = .ok (.iconst 2, 1) := by decide +kernel
theorem dX6_init_48 : decode cX6_init 48 = .ok (.iconst 1, 1) := by decide +kernel
theorem dX6_init_49 : decode cX6_init 49 = .ok (.invokevirtual 27, 3) := by decide +kernel
theorem dX6_init_52 : decode cX6_init 52 = .ok (.return_, 1) := by decide +kernel
theorem dX6_begin_0 : decode cX6_begin 0 = .ok (.aload_n 0, 1) := by decide +kernel
theorem dX6_begin_1 : decode cX6_begin 1 = .ok (.iload_n 2, 1) := by decide +kernel
theorem dX6_begin_2 : decode cX6_begin 2 = .ok (.putfield 31, 3) := by decide +kernel
theorem dX6_begin_5 : decode cX6_begin 5 = .ok (.aload_n 0, 1) := by decide +kernel
theorem dX6_begin_6 : decode cX6_begin 6 = .ok (.iload_n 3, 1) := by decide +kernel
theorem dX6_begin_7 : decode cX6_begin 7 = .ok (.putfield 35, 3) := by decide +kernel
theorem dX6_begin_10 : decode cX6_begin 10 = .ok (.aload_n 0, 1) := by decide +kernel
theorem dX6_begin_11 : decode cX6_begin 11 = .ok (.iconst 0, 1) := by decide +kernel
theorem dX6_begin_12 : decode cX6_begin 12 = .ok (.putfield 38, 3) := by decide +kernel
theorem dX6_begin_15 : decode cX6_begin 15 = .ok (.aload_n 0, 1) := by decide +kernel
theorem dX6_begin_16 : decode cX6_begin 16 = .ok (.iconst 0, 1) := by decide +kernel
theorem dX6_begin_17 : decode cX6_begin 17 = .ok (.putfield 42, 3) := by decide +kernel
theorem dX6_begin_20 : decode cX6_begin 20 = .ok (.aload_n 0, 1) := by decide +kernel
theorem dX6_begin_21 : decode cX6_begin 21 = .ok (.iconst 0, 1) := by decide +kernel
theorem dX6_begin_22 : decode cX6_begin 22 = .ok (.putfield 45, 3) := by decide +kernel
theorem dX6_begin_25 : decode cX6_begin 25 = .ok (.aload_n 0, 1) := by decide +kernel
theorem dX6_begin_26 : decode cX6_begin 26 = .ok (.iconst 0, 1) := by decide +kernel
theorem dX6_begin_27 : decode cX6_begin 27 = .ok (.putfield 48, 3) := by decide +kernel
theorem dX6_begin_30 : decode cX6_begin 30 = .ok (.aload_n 0, 1) := by decide +kernel
theorem dX6_begin_31 : decode cX6_begin 31 = .ok (.iconst 0, 1) := by decide +kernel
theorem dX6_begin_32 : decode cX6_begin 32 = .ok (.putfield 51, 3) := by decide +kernel
theorem dX6_begin_35 : decode cX6_begin 35 = .ok (.aload_n 0, 1) := by decide +kernel
theorem dX6_begin_36 : decode cX6_begin 36 = .ok (.iload_n 1, 1) := by decide +kernel
theorem dX6_begin_37 : decode cX6_begin 37 = .ok (.invokevirtual 54, 3) := by decide +kernel
theorem dX6_begin_40 : decode cX6_begin 40 = .ok (.return_, 1) := by decide +kernel
theorem dX6_copyFrom_0 : decode cX6_copyFrom 0 = .ok (.aload_n 1, 1) := by decide +kernel
theorem dX6_copyFrom_1 : decode cX6_copyFrom 1 = .ok (.getfield 9, 3) := by decide +kernel
theorem dX6_copyFrom_4 : decode cX6_copyFrom 4 = .ok (.iconst 0, 1) := by decide +kernel
theorem dX6_copyFrom_5 : decode cX6_copyFrom 5 = .ok (.aload_n 0, 1) := by decide +kernel
theorem dX6_copyFrom_6 : decode cX6_copyFrom 6 = .ok (.getfield 9, 3) := by decide +kernel
theorem dX6_copyFrom_9 : decode cX6_copyFrom 9 = .ok (.iconst 0, 1) := by decide +kernel
theorem dX6_copyFrom_10 : decode cX6_copyFrom 10 = .ok (.bipush 64, 2) := by decide +kernel
theorem dX6_copyFrom_12 : decode cX6_copyFrom 12 = .ok (.invokestatic 58, 3) := by decide +kernel
theorem dX6_copyFrom_15 : decode cX6_copyFrom 15 = .ok (.aload_n 1, 1) := by decide +kernel
theorem dX6_copyFrom_16 : decode cX6_copyFrom 16 = .ok (.getfield 15, 3) := by decide +kernel
theorem dX6_copyFrom_19 : decode cX6_copyFrom 19 = .ok (.iconst 0, 1) := by decide +kernel
theorem dX6_copyFrom_20 : decode cX6_copyFrom 20 = .ok (.aload_n 0, 1) := by decide +kernel
theorem dX6_copyFrom_21 : decode cX6_copyFrom 21 = .ok (.getfield 15, 3) := by decide +kernel
theorem dX6_copyFrom_24 : decode cX6_copyFrom 24 = .ok (.iconst 0, 1) := by decide +kernel
theorem dX6_copyFrom_25 : decode cX6_copyFrom 25 = .ok (.bipush 64, 2) := by decide +kernel
theorem dX6_copyFrom_27 : decode cX6_copyFrom 27 = .ok (.invokestatic 58, 3) := by decide +kernel
theorem dX6_copyFrom_30 : decode cX6_copyFrom 30 = .ok (.aload_n 1, 1) := by decide +kernel
theorem dX6_copyFrom_31 : decode cX6_copyFrom 31 = .ok (.getfield 18, 3) := by decide +kernel
theorem dX6_copyFrom_34 : decode cX6_copyFrom 34 = .ok (.iconst 0, 1) := by decide +kernel
theorem dX6_copyFrom_35 : decode cX6_copyFrom 35 = .ok (.aload_n 0, 1) := by decide +kernel
theorem dX6_copyFrom_36 : decode cX6_copyFrom 36 = .ok (.getfield 18, 3) := by decide +kernel
theorem dX6_copyFrom_39 : decode cX6_copyFrom 39 = .ok (.iconst 0, 1) := by decide +kernel
theorem dX6_copyFrom_40 : decode cX6_copyFrom 40 = .ok (.bipush 64, 2) := by decide +kernel
theorem dX6_copyFrom_42 : decode cX6_copyFrom 42 = .ok (.invokestatic 58, 3) := by decide +kernel
theorem dX6_copyFrom_45 : decode cX6_copyFrom 45 = .ok (.aload_n 0, 1) := by decide +kernel
theorem dX6_copyFrom_46 : decode cX6_copyFrom 46 = .ok (.aload_n 1, 1) := by decide +kernel
theorem dX6_copyFrom_47 : decode cX6_copyFrom 47 = .ok (.getfield 64, 3) := by decide +kernel
theorem dX6_copyFrom_50 : decode cX6_copyFrom 50 = .ok (.putfield 64, 3) := by decide +kernel
theorem dX6_copyFrom_53 : decode cX6_copyFrom 53 = .ok (.aload_n 0, 1) := by decide +kernel
theorem dX6_copyFrom_54 : decode cX6_copyFrom 54 = .ok (.aload_n 1, 1) := by decide +kernel
theorem dX6_copyFrom_55 : decode cX6_copyFrom 55 = .ok (.getfield 31, 3) := by decide +kernel
theorem dX6_copyFrom_58 : decode cX6_copyFrom 58 = .ok (.putfield 31, 3) := by decide +kernel
theorem dX6_copyFrom_61 : decode cX6_copyFrom 61 = .ok (.aload_n 0, 1) := by decide +kernel
theorem dX6_copyFrom_62 : decode cX6_copyFrom 62 = .ok (.aload_n 1, 1) := by decide +kernel
theorem dX6_copyFrom_63 : decode cX6_copyFrom 63 = .ok (.getfield 35, 3) := by decide +kernel
theorem dX6_copyFrom_66 : decode cX6_copyFrom 66 = .ok (.putfield 35, 3) := by decide +kernel
theorem dX6_copyFrom_69 : decode cX6_copyFrom 69 = .ok (.aload_n 0, 1) := by decide +kernel
theorem dX6_copyFrom_70 : decode cX6_copyFrom 70 = .ok (.aload_n 1, 1) := by decide +kernel
theorem dX6_copyFrom_71 : decode cX6_copyFrom 71 = .ok (.getfield 38, 3) := by decide +kernel
theorem dX6_copyFrom_74 : decode cX6_copyFrom 74 = .ok (.putfield 38, 3) := by decide +kernel
theorem dX6_copyFrom_77 : decode cX6_copyFrom 77 = .ok (.aload_n 0, 1) := by decide +kernel
theorem dX6_copyFrom_78 : decode cX6_copyFrom 78 = .ok (.aload_n 1, 1) := by decide +kernel
theorem dX6_copyFrom_79 : decode cX6_copyFrom 79 = .ok (.getfield 67, 3) := by decide +kernel
theorem dX6_copyFrom_82 : decode cX6_copyFrom 82 = .ok (.putfield 67, 3) := by decide +kernel
theorem dX6_copyFrom_85 : decode cX6_copyFrom 85 = .ok (.aload_n 0, 1) := by decide +kernel
theorem dX6_copyFrom_86 : decode cX6_copyFrom 86 = .ok (.aload_n 1, 1) := by decide +kernel
theorem dX6_copyFrom_87 : decode cX6_copyFrom 87 = .ok (.getfield 70, 3) := by decide +kernel
theorem dX6_copyFrom_90 : decode cX6_copyFrom 90 = .ok (.putfield 70, 3) := by decide +kernel
theorem dX6_copyFrom_93 : decode cX6_copyFrom 93 = .ok (.aload_n 0, 1) := by decide +kernel
theorem dX6_copyFrom_94 : decode cX6_copyFrom 94 = .ok (.aload_n 1, 1) := by decide +kernel
theorem dX6_copyFrom_95 : decode cX6_copyFrom 95 = .ok (.getfield 42, 3) := by decide +kernel
theorem dX6_copyFrom_98 : decode cX6_copyFrom 98 = .ok (.putfield 42, 3) := by decide +kernel
theorem dX6_copyFrom_101 : decode cX6_copyFrom 101 = .ok (.aload_n 0, 1) := by decide +kernel
theorem dX6_copyFrom_102 : decode cX6_copyFrom 102 = .ok (.aload_n 1, 1) := by decide +kernel
theorem dX6_copyFrom_103 : decode cX6_copyFrom 103 = .ok (.getfield 45, 3) := by decide +kernel
theorem dX6_copyFrom_106 : decode cX6_copyFrom 106 = .ok (.putfield 45, 3) := by decide +kernel
theorem dX6_copyFrom_109 : decode cX6_copyFrom 109 = .ok (.aload_n 0, 1) := by decide +kernel
theorem dX6_copyFrom_110 : decode cX6_copyFrom 110 = .ok (.aload_n 1, 1) := by decide +kernel
theorem dX6_copyFrom_111 : decode cX6_copyFrom 111 = .ok (.getfield 48, 3) := by decide +kernel
theorem dX6_copyFrom_114 : decode cX6_copyFrom 114 = .ok (.putfield 48, 3) := by decide +kernel
theorem dX6_copyFrom_117 : decode cX6_copyFrom 117 = .ok (.aload_n 0, 1) := by decide +kernel
theorem dX6_copyFrom_118 : decode cX6_copyFrom 118 = .ok (.aload_n 1, 1) := by decide +kernel
theorem dX6_copyFrom_119 : decode cX6_copyFrom 119 = .ok (.getfield 51, 3) := by decide +kernel
theorem dX6_copyFrom_122 : decode cX6_copyFrom 122 = .ok (.putfield 51, 3) := by decide +kernel
theorem dX6_copyFrom_125 : decode cX6_copyFrom 125 = .ok (.return_, 1) := by decide +kernel
theorem dX6_insert_0 : decode cX6_insert 0 = .ok (.aload_n 0, 1) := by decide +kernel
theorem dX6_insert_1 : decode cX6_insert 1 = .ok (.invokevirtual 73, 3) := by decide +kernel
theorem dX6_insert_4 : decode cX6_insert 4 = .ok (.aload_n 0, 1) := by decide +kernel
theorem dX6_insert_5 : decode cX6_insert 5 = .ok (.iload_n 1, 1) := by decide +kernel
theorem dX6_insert_6 : decode cX6_insert 6 = .ok (.iload_n 2, 1) := by decide +kernel
theorem dX6_insert_7 : decode cX6_insert 7 = .ok (.invokevirtual 76, 3) := by decide +kernel
theorem dX6_insert_10 : decode cX6_insert 10 = .ok (.istore_n 3, 1) := by decide +kernel
theorem dX6_insert_11 : decode cX6_insert 11 = .ok (.bipush 8, 2) := by decide +kernel
theorem dX6_insert_13 : decode cX6_insert 13 = .ok (.istore 4, 2) := by decide +kernel
theorem dX6_insert_15 : decode cX6_insert 15 = .ok (.iload 4, 2) := by decide +kernel
theorem dX6_insert_17 : decode cX6_insert 17 = .ok (.bipush 64, 2) := by decide +kernel
theorem dX6_insert_19 : decode cX6_insert 19 = .ok (.if_icmp .gt 42, 3) := by decide +kernel
theorem dX6_insert_22 : decode cX6_insert 22 = .ok (.iload_n 3, 1) := by decide +kernel
theorem dX6_insert_23 : decode cX6_insert 23 = .ok (.iconst (-1), 1) := by decide +kernel
theorem dX6_insert_24 : decode cX6_insert 24 = .ok (.if_icmp .ne 28, 3) := by decide +kernel
theorem dX6_insert_27 : decode cX6_insert 27 = .ok (.iload 4, 2) := by decide +kernel
theorem dX6_insert_29 : decode cX6_insert 29 = .ok (.aload_n 0, 1) := by decide +kernel
theorem dX6_insert_30 : decode cX6_insert 30 = .ok (.getfield 64, 3) := by decide +kernel
theorem dX6_insert_33 : decode cX6_insert 33 = .ok (.if_icmp .le 19, 3) := by decide +kernel
theorem dX6_insert_36 : decode cX6_insert 36 = .ok (.aload_n 0, 1) := by decide +kernel
theorem dX6_insert_37 : decode cX6_insert 37 = .ok (.iload 4, 2) := by decide +kernel
theorem dX6_insert_39 : decode cX6_insert 39 = .ok (.invokevirtual 80, 3) := by decide +kernel
theorem dX6_insert_42 : decode cX6_insert 42 = .ok (.ifCond .eq 10, 3) := by decide +kernel
theorem dX6_insert_45 : decode cX6_insert 45 = .ok (.aload_n 0, 1) := by decide +kernel
theorem dX6_insert_46 : decode cX6_insert 46 = .ok (.iload_n 1, 1) := by decide +kernel
theorem dX6_insert_47 : decode cX6_insert 47 = .ok (.iload_n 2, 1) := by decide +kernel
theorem dX6_insert_48 : decode cX6_insert 48 = .ok (.invokevirtual 76, 3) := by decide +kernel
theorem dX6_insert_51 : decode cX6_insert 51 = .ok (.istore_n 3, 1) := by decide +kernel
theorem dX6_insert_52 : decode cX6_insert 52 = .ok (.iload 4, 2) := by decide +kernel
theorem dX6_insert_54 : decode cX6_insert 54 = .ok (.iconst 2, 1) := by decide +kernel
theorem dX6_insert_55 : decode cX6_insert 55 = .ok (.imul, 1) := by decide +kernel
theorem dX6_insert_56 : decode cX6_insert 56 = .ok (.istore 4, 2) := by decide +kernel
theorem dX6_insert_58 : decode cX6_insert 58 = .ok (.goto (-43), 3) := by decide +kernel
theorem dX6_insert_61 : decode cX6_insert 61 = .ok (.iload_n 3, 1) := by decide +kernel
theorem dX6_insert_62 : decode cX6_insert 62 = .ok (.iconst (-1), 1) := by decide +kernel
theorem dX6_insert_63 : decode cX6_insert 63 = .ok (.if_icmp .eq 13, 3) := by decide +kernel
theorem dX6_insert_66 : decode cX6_insert 66 = .ok (.aload_n 0, 1) := by decide +kernel
theorem dX6_insert_67 : decode cX6_insert 67 = .ok (.dup, 1) := by decide +kernel
theorem dX6_insert_68 : decode cX6_insert 68 = .ok (.getfield 48, 3) := by decide +kernel
theorem dX6_insert_71 : decode cX6_insert 71 = .ok (.iconst 1, 1) := by decide +kernel
theorem dX6_insert_72 : decode cX6_insert 72 = .ok (.iadd, 1) := by decide +kernel
theorem dX6_insert_73 : decode cX6_insert 73 = .ok (.putfield 48, 3) := by decide +kernel
theorem dX6_insert_76 : decode cX6_insert 76 = .ok (.iload_n 3, 1) := by decide +kernel
theorem dX6_insert_77 : decode cX6_insert 77 = .ok (.ireturn, 1) := by decide +kernel
theorem dX6_store_0 : decode cX6_store 0 = .ok (.aload_n 0, 1) := by decide +kernel
theorem dX6_store_1 : decode cX6_store 1 = .ok (.iload_n 1, 1) := by decide +kernel
theorem dX6_store_2 : decode cX6_store 2 = .ok (.invokevirtual 84, 3) := by decide +kernel
theorem dX6_store_5 : decode cX6_store 5 = .ok (.istore_n 3, 1) := by decide +kernel
theorem dX6_store_6 : decode cX6_store 6 = .ok (.aload_n 0, 1) := by decide +kernel
theorem dX6_store_7 : decode cX6_store 7 = .ok (.iload_n 3, 1) := by decide +kernel
theorem dX6_store_8 : decode cX6_store 8 = .ok (.invokevirtual 91, 3) := by decide +kernel
theorem dX6_store_11 : decode cX6_store 11 = .ok (.ifCond .eq 12, 3) := by decide +kernel
theorem dX6_store_14 : decode cX6_store 14 = .ok (.aload_n 0, 1) := by decide +kernel
theorem dX6_store_15 : decode cX6_store 15 = .ok (.getfield 15, 3) := by decide +kernel
theorem dX6_store_18 : decode cX6_store 18 = .ok (.iload_n 3, 1) := by decide +kernel
theorem dX6_store_19 : decode cX6_store 19 = .ok (.iload_n 2, 1) := by decide +kernel
theorem dX6_store_20 : decode cX6_store 20 = .ok (.iastore, 1) := by decide +kernel
theorem dX6_store_21 : decode cX6_store 21 = .ok (.iconst 1, 1) := by decide +kernel
theorem dX6_store_22 : decode cX6_store 22 = .ok (.ireturn, 1) := by decide +kernel
theorem dX6_store_23 : decode cX6_store 23 = .ok (.aload_n 0, 1) := by decide +kernel
theorem dX6_store_24 : decode cX6_store 24 = .ok (.iload_n 1, 1) := by decide +kernel
theorem dX6_store_25 : decode cX6_store 25 = .ok (.iload_n 2, 1) := by decide +kernel
theorem dX6_store_26 : decode cX6_store 26 = .ok (.invokevirtual 88, 3) := by decide +kernel
theorem dX6_store_29 : decode cX6_store 29 = .ok (.iconst (-1), 1) := by decide +kernel
theorem dX6_store_30 : decode cX6_store 30 = .ok (.if_icmp .eq 7, 3) := by decide +kernel
theorem dX6_store_33 : decode cX6_store 33 = .ok (.iconst 1, 1) := by decide +kernel
theorem dX6_store_34 : decode cX6_store 34 = .ok (.goto 4, 3) := by decide +kernel
theorem dX6_store_37 : decode cX6_store 37 = .ok (.iconst 0, 1) := by decide +kernel
theorem dX6_store_38 : decode cX6_store 38 = .ok (.ireturn, 1) := by decide +kernel
theorem dX6_take_0 : decode cX6_take 0 = .ok (.aload_n 0, 1) := by decide +kernel
theorem dX6_take_1 : decode cX6_take 1 = .ok (.iload_n 1, 1) := by decide +kernel
theorem dX6_take_2 : decode cX6_take 2 = .ok (.invokevirtual 84, 3) := by decide +kernel
theorem dX6_take_5 : decode cX6_take 5 = .ok (.istore_n 2, 1) := by decide +kernel
theorem dX6_take_6 : decode cX6_take 6 = .ok (.aload_n 0, 1) := by decide +kernel
theorem dX6_take_7 : decode cX6_take 7 = .ok (.iload_n 1, 1) := by decide +kernel
theorem dX6_take_8 : decode cX6_take 8 = .ok (.invokevirtual 94, 3) := by decide +kernel
theorem dX6_take_11 : decode cX6_take 11 = .ok (.istore_n 3, 1) := by decide +kernel
theorem dX6_take_12 : decode cX6_take 12 = .ok (.aload_n 0, 1) := by decide +kernel
theorem dX6_take_13 : decode cX6_take 13 = .ok (.iload_n 2, 1) := by decide +kernel
theorem dX6_take_14 : decode cX6_take 14 = .ok (.invokevirtual 91, 3) := by decide +kernel
theorem dX6_take_17 : decode cX6_take 17 = .ok (.ifCond .eq 11, 3) := by decide +kernel
theorem dX6_take_20 : decode cX6_take 20 = .ok (.aload_n 0, 1) := by decide +kernel
theorem dX6_take_21 : decode cX6_take 21 = .ok (.iload_n 3, 1) := by decide +kernel
theorem dX6_take_22 : decode cX6_take 22 = .ok (.invokevirtual 91, 3) := by decide +kernel
theorem dX6_take_25 : decode cX6_take 25 = .ok (.ifCond .ne 5, 3) := by decide +kernel
theorem dX6_take_28 : decode cX6_take 28 = .ok (.iconst (-1), 1) := by decide +kernel
theorem dX6_take_29 : decode cX6_take 29 = .ok (.ireturn, 1) := by decide +kernel
theorem dX6_take_30 : decode cX6_take 30 = .ok (.aload_n 0, 1) := by decide +kernel
theorem dX6_take_31 : decode cX6_take 31 = .ok (.getfield 15, 3) := by decide +kernel
theorem dX6_take_34 : decode cX6_take 34 = .ok (.iload_n 2, 1) := by decide +kernel
theorem dX6_take_35 : decode cX6_take 35 = .ok (.iaload, 1) := by decide +kernel
theorem dX6_take_36 : decode cX6_take 36 = .ok (.istore 4, 2) := by decide +kernel
theorem dX6_take_38 : decode cX6_take 38 = .ok (.aload_n 0, 1) := by decide +kernel
theorem dX6_take_39 : decode cX6_take 39 = .ok (.getfield 18, 3) := by decide +kernel
theorem dX6_take_42 : decode cX6_take 42 = .ok (.iload_n 3, 1) := by decide +kernel
theorem dX6_take_43 : decode cX6_take 43 = .ok (.dup2, 1) := by decide +kernel
theorem dX6_take_44 : decode cX6_take 44 = .ok (.iaload, 1) := by decide +kernel
theorem dX6_take_45 : decode cX6_take 45 = .ok (.iconst 1, 1) := by decide +kernel
theorem dX6_take_46 : decode cX6_take 46 = .ok (.aload_n 0, 1) := by decide +kernel
theorem dX6_take_47 : decode cX6_take 47 = .ok (.iload_n 2, 1) := by decide +kernel
theorem dX6_take_48 : decode cX6_take 48 = .ok (.invokevirtual 97, 3) := by decide +kernel
theorem dX6_take_51 : decode cX6_take 51 = .ok (.ishl, 1) := by decide +kernel
theorem dX6_take_52 : decode cX6_take 52 = .ok (.iconst (-1), 1) := by decide +kernel
theorem dX6_take_53 : decode cX6_take 53 = .ok (.ixor, 1) := by decide +kernel
theorem dX6_take_54 : decode cX6_take 54 = .ok (.iand, 1) := by decide +kernel
theorem dX6_take_55 : decode cX6_take 55 = .ok (.iastore, 1) := by decide +kernel
theorem dX6_take_56 : decode cX6_take 56 = .ok (.aload_n 0, 1) := by decide +kernel
theorem dX6_take_57 : decode cX6_take 57 = .ok (.getfield 9, 3) := by decide +kernel
theorem dX6_take_60 : decode cX6_take 60 = .ok (.iload_n 2, 1) := by decide +kernel
theorem dX6_take_61 : decode cX6_take 61 = .ok (.iconst (-1), 1) := by decide +kernel
theorem dX6_take_62 : decode cX6_take 62 = .ok (.iastore, 1) := by decide +kernel
theorem dX6_take_63 : decode cX6_take 63 = .ok (.aload_n 0, 1) := by decide +kernel
theorem dX6_take_64 : decode cX6_take 64 = .ok (.getfield 15, 3) := by decide +kernel
theorem dX6_take_67 : decode cX6_take 67 = .ok (.iload_n 2, 1) := by decide +kernel
theorem dX6_take_68 : decode cX6_take 68 = .ok (.iconst (-1), 1) := by decide +kernel
theorem dX6_take_69 : decode cX6_take 69 = .ok (.iastore, 1) := by decide +kernel
theorem dX6_take_70 : decode cX6_take 70 = .ok (.aload_n 0, 1) := by decide +kernel
theorem dX6_take_71 : decode cX6_take 71 = .ok (.dup, 1) := by decide +kernel
theorem dX6_take_72 : decode cX6_take 72 = .ok (.getfield 67, 3) := by decide +kernel
theorem dX6_take_75 : decode cX6_take 75 = .ok (.iconst 1, 1) := by decide +kernel
theorem dX6_take_76 : decode cX6_take 76 = .ok (.isub, 1) := by decide +kernel
theorem dX6_take_77 : decode cX6_take 77 = .ok (.putfield 67, 3) := by decide +kernel
theorem dX6_take_80 : decode cX6_take 80 = .ok (.aload_n 0, 1) := by decide +kernel
theorem dX6_take_81 : decode cX6_take 81 = .ok (.dup, 1) := by decide +kernel
theorem dX6_take_82 : decode cX6_take 82 = .ok (.getfield 51, 3) := by decide +kernel
theorem dX6_take_85 : decode cX6_take 85 = .ok (.iconst 1, 1) := by decide +kernel
theorem dX6_take_86 : decode cX6_take 86 = .ok (.iadd, 1) := by decide +kernel
theorem dX6_take_87 : decode cX6_take 87 = .ok (.putfield 51, 3) := by decide +kernel
theorem dX6_take_90 : decode cX6_take 90 = .ok (.aload_n 0, 1) := by decide +kernel
theorem dX6_take_91 : decode cX6_take 91 = .ok (.getfield 38, 3) := by decide +kernel
theorem dX6_take_94 : decode cX6_take 94 = .ok (.ifCond .eq 8, 3) := by decide +kernel
theorem dX6_take_97 : decode cX6_take 97 = .ok (.aload_n 0, 1) := by decide +kernel
theorem dX6_take_98 : decode cX6_take 98 = .ok (.iload_n 2, 1) := by decide +kernel
theorem dX6_take_99 : decode cX6_take 99 = .ok (.invokevirtual 100, 3) := by decide +kernel
theorem dX6_take_102 : decode cX6_take 102 = .ok (.iload 4, 2) := by decide +kernel
theorem dX6_take_104 : decode cX6_take 104 = .ok (.ireturn, 1) := by decide +kernel
theorem dX6_changeNear_0 : decode cX6_changeNear 0 = .ok (.aload_n 0, 1) := by decide +kernel
theorem dX6_changeNear_1 : decode cX6_changeNear 1 = .ok (.iload_n 1, 1) := by decide +kernel
theorem dX6_changeNear_2 : decode cX6_changeNear 2 = .ok (.putfield 31, 3) := by decide +kernel
theorem dX6_changeNear_5 : decode cX6_changeNear 5 = .ok (.aload_n 0, 1) := by decide +kernel
theorem dX6_changeNear_6 : decode cX6_changeNear 6 = .ok (.aload_n 0, 1) := by decide +kernel
theorem dX6_changeNear_7 : decode cX6_changeNear 7 = .ok (.getfield 64, 3) := by decide +kernel
theorem dX6_changeNear_10 : decode cX6_changeNear 10 = .ok (.invokevirtual 103, 3) := by decide +kernel
theorem dX6_changeNear_13 : decode cX6_changeNear 13 = .ok (.ireturn, 1) := by decide +kernel
theorem dX6_changeTimes_0 : decode cX6_changeTimes 0 = .ok (.aload_n 0, 1) := by decide +kernel
theorem dX6_changeTimes_1 : decode cX6_changeTimes 1 = .ok (.iload_n 1, 1) := by decide +kernel
theorem dX6_changeTimes_2 : decode cX6_changeTimes 2 = .ok (.putfield 35, 3) := by decide +kernel
theorem dX6_changeTimes_5 : decode cX6_changeTimes 5 = .ok (.aload_n 0, 1) := by decide +kernel
theorem dX6_changeTimes_6 : decode cX6_changeTimes 6 = .ok (.aload_n 0, 1) := by decide +kernel
theorem dX6_changeTimes_7 : decode cX6_changeTimes 7 = .ok (.getfield 64, 3) := by decide +kernel
theorem dX6_changeTimes_10 : decode cX6_changeTimes 10 = .ok (.invokevirtual 103, 3) := by decide +kernel
theorem dX6_changeTimes_13 : decode cX6_changeTimes 13 = .ok (.ireturn, 1) := by decide +kernel
theorem dX6_buildAnew_0 : decode cX6_buildAnew 0 = .ok (.aload_n 0, 1) := by decide +kernel
theorem dX6_buildAnew_1 : decode cX6_buildAnew 1 = .ok (.invokevirtual 73, 3) := by decide +kernel
theorem dX6_buildAnew_4 : decode cX6_buildAnew 4 = .ok (.bipush 8, 2) := by decide +kernel
theorem dX6_buildAnew_6 : decode cX6_buildAnew 6 = .ok (.istore_n 2, 1) := by decide +kernel
theorem dX6_buildAnew_7 : decode cX6_buildAnew 7 = .ok (.iload_n 2, 1) := by decide +kernel
theorem dX6_buildAnew_8 : decode cX6_buildAnew 8 = .ok (.bipush 64, 2) := by decide +kernel
theorem dX6_buildAnew_10 : decode cX6_buildAnew 10 = .ok (.if_icmp .gt 25, 3) := by decide +kernel
theorem dX6_buildAnew_13 : decode cX6_buildAnew 13 = .ok (.iload_n 2, 1) := by decide +kernel
theorem dX6_buildAnew_14 : decode cX6_buildAnew 14 = .ok (.iload_n 1, 1) := by decide +kernel
theorem dX6_buildAnew_15 : decode cX6_buildAnew 15 = .ok (.if_icmp .lt 13, 3) := by decide +kernel
theorem dX6_buildAnew_18 : decode cX6_buildAnew 18 = .ok (.aload_n 0, 1) := by decide +kernel
theorem dX6_buildAnew_19 : decode cX6_buildAnew 19 = .ok (.iload_n 2, 1) := by decide +kernel
theorem dX6_buildAnew_20 : decode cX6_buildAnew 20 = .ok (.invokevirtual 80, 3) := by decide +kernel
theorem dX6_buildAnew_23 : decode cX6_buildAnew 23 = .ok (.ifCond .eq 5, 3) := by decide +kernel
theorem dX6_buildAnew_26 : decode cX6_buildAnew 26 = .ok (.iconst 1, 1) := by decide +kernel
theorem dX6_buildAnew_27 : decode cX6_buildAnew 27 = .ok (.ireturn, 1) := by decide +kernel
theorem dX6_buildAnew_28 : decode cX6_buildAnew 28 = .ok (.iload_n 2, 1) := by decide +kernel
theorem dX6_buildAnew_29 : decode cX6_buildAnew 29 = .ok (.iconst 2, 1) := by decide +kernel
theorem dX6_buildAnew_30 : decode cX6_buildAnew 30 = .ok (.imul, 1) := by decide +kernel
theorem dX6_buildAnew_31 : decode cX6_buildAnew 31 = .ok (.istore_n 2, 1) := by decide +kernel
theorem dX6_buildAnew_32 : decode cX6_buildAnew 32 = .ok (.goto (-25), 3) := by decide +kernel
theorem dX6_buildAnew_35 : decode cX6_buildAnew 35 = .ok (.iconst 0, 1) := by decide +kernel
theorem dX6_buildAnew_36 : decode cX6_buildAnew 36 = .ok (.ireturn, 1) := by decide +kernel
theorem dX6_dropAll_0 : decode cX6_dropAll 0 = .ok (.aload_n 0, 1) := by decide +kernel
theorem dX6_dropAll_1 : decode cX6_dropAll 1 = .ok (.getfield 67, 3) := by decide +kernel
theorem dX6_dropAll_4 : decode cX6_dropAll 4 = .ok (.istore_n 1, 1) := by decide +kernel
theorem dX6_dropAll_5 : decode cX6_dropAll 5 = .ok (.aload_n 0, 1) := by decide +kernel
theorem dX6_dropAll_6 : decode cX6_dropAll 6 = .ok (.dup, 1) := by decide +kernel
theorem dX6_dropAll_7 : decode cX6_dropAll 7 = .ok (.getfield 51, 3) := by decide +kernel
theorem dX6_dropAll_10 : decode cX6_dropAll 10 = .ok (.iload_n 1, 1) := by decide +kernel
theorem dX6_dropAll_11 : decode cX6_dropAll 11 = .ok (.iadd, 1) := by decide +kernel
theorem dX6_dropAll_12 : decode cX6_dropAll 12 = .ok (.putfield 51, 3) := by decide +kernel
theorem dX6_dropAll_15 : decode cX6_dropAll 15 = .ok (.aload_n 0, 1) := by decide +kernel
theorem dX6_dropAll_16 : decode cX6_dropAll 16 = .ok (.aload_n 0, 1) := by decide +kernel
theorem dX6_dropAll_17 : decode cX6_dropAll 17 = .ok (.getfield 64, 3) := by decide +kernel
theorem dX6_dropAll_20 : decode cX6_dropAll 20 = .ok (.invokevirtual 54, 3) := by decide +kernel
theorem dX6_dropAll_23 : decode cX6_dropAll 23 = .ok (.iload_n 1, 1) := by decide +kernel
theorem dX6_dropAll_24 : decode cX6_dropAll 24 = .ok (.ireturn, 1) := by decide +kernel
theorem dX6_empty_0 : decode cX6_empty 0 = .ok (.aload_n 0, 1) := by decide +kernel
theorem dX6_empty_1 : decode cX6_empty 1 = .ok (.iload_n 1, 1) := by decide +kernel
theorem dX6_empty_2 : decode cX6_empty 2 = .ok (.putfield 64, 3) := by decide +kernel
theorem dX6_empty_5 : decode cX6_empty 5 = .ok (.aload_n 0, 1) := by decide +kernel
theorem dX6_empty_6 : decode cX6_empty 6 = .ok (.iconst 0, 1) := by decide +kernel
theorem dX6_empty_7 : decode cX6_empty 7 = .ok (.putfield 67, 3) := by decide +kernel
theorem dX6_empty_10 : decode cX6_empty 10 = .ok (.aload_n 0, 1) := by decide +kernel
theorem dX6_empty_11 : decode cX6_empty 11 = .ok (.iconst 0, 1) := by decide +kernel
theorem dX6_empty_12 : decode cX6_empty 12 = .ok (.putfield 70, 3) := by decide +kernel
theorem dX6_empty_15 : decode cX6_empty 15 = .ok (.iconst 0, 1) := by decide +kernel
theorem dX6_empty_16 : decode cX6_empty 16 = .ok (.istore_n 2, 1) := by decide +kernel
theorem dX6_empty_17 : decode cX6_empty 17 = .ok (.iload_n 2, 1) := by decide +kernel
theorem dX6_empty_18 : decode cX6_empty 18 = .ok (.bipush 64, 2) := by decide +kernel
theorem dX6_empty_20 : decode cX6_empty 20 = .ok (.if_icmp .ge 30, 3) := by decide +kernel
theorem dX6_empty_23 : decode cX6_empty 23 = .ok (.aload_n 0, 1) := by decide +kernel
theorem dX6_empty_24 : decode cX6_empty 24 = .ok (.getfield 9, 3) := by decide +kernel
theorem dX6_empty_27 : decode cX6_empty 27 = .ok (.iload_n 2, 1) := by decide +kernel
theorem dX6_empty_28 : decode cX6_empty 28 = .ok (.iconst (-1), 1) := by decide +kernel
theorem dX6_empty_29 : decode cX6_empty 29 = .ok (.iastore, 1) := by decide +kernel
theorem dX6_empty_30 : decode cX6_empty 30 = .ok (.aload_n 0, 1) := by decide +kernel
theorem dX6_empty_31 : decode cX6_empty 31 = .ok (.getfield 15, 3) := by decide +kernel
theorem dX6_empty_34 : decode cX6_empty 34 = .ok (.iload_n 2, 1) := by decide +kernel
theorem dX6_empty_35 : decode cX6_empty 35 = .ok (.iconst (-1), 1) := by decide +kernel
theorem dX6_empty_36 : decode cX6_empty 36 = .ok (.iastore, 1) := by decide +kernel
theorem dX6_empty_37 : decode cX6_empty 37 = .ok (.aload_n 0, 1) := by decide +kernel
theorem dX6_empty_38 : decode cX6_empty 38 = .ok (.getfield 18, 3) := by decide +kernel
theorem dX6_empty_41 : decode cX6_empty 41 = .ok (.iload_n 2, 1) := by decide +kernel
theorem dX6_empty_42 : decode cX6_empty 42 = .ok (.iconst 0, 1) := by decide +kernel
theorem dX6_empty_43 : decode cX6_empty 43 = .ok (.iastore, 1) := by decide +kernel
theorem dX6_empty_44 : decode cX6_empty 44 = .ok (.iinc 2 1, 3) := by decide +kernel
theorem dX6_empty_47 : decode cX6_empty 47 = .ok (.goto (-30), 3) := by decide +kernel
theorem dX6_empty_50 : decode cX6_empty 50 = .ok (.return_, 1) := by decide +kernel
theorem dX6_queueAll_0 : decode cX6_queueAll 0 = .ok (.aload_n 0, 1) := by decide +kernel
theorem dX6_queueAll_1 : decode cX6_queueAll 1 = .ok (.iconst 0, 1) := by decide +kernel
theorem dX6_queueAll_2 : decode cX6_queueAll 2 = .ok (.putfield 106, 3) := by decide +kernel
theorem dX6_queueAll_5 : decode cX6_queueAll 5 = .ok (.iconst 0, 1) := by decide +kernel
theorem dX6_queueAll_6 : decode cX6_queueAll 6 = .ok (.istore_n 1, 1) := by decide +kernel
theorem dX6_queueAll_7 : decode cX6_queueAll 7 = .ok (.iload_n 1, 1) := by decide +kernel
theorem dX6_queueAll_8 : decode cX6_queueAll 8 = .ok (.aload_n 0, 1) := by decide +kernel
theorem dX6_queueAll_9 : decode cX6_queueAll 9 = .ok (.getfield 64, 3) := by decide +kernel
theorem dX6_queueAll_12 : decode cX6_queueAll 12 = .ok (.if_icmp .ge 87, 3) := by decide +kernel
theorem dX6_queueAll_15 : decode cX6_queueAll 15 = .ok (.iload_n 1, 1) := by decide +kernel
theorem dX6_queueAll_16 : decode cX6_queueAll 16 = .ok (.aload_n 0, 1) := by decide +kernel
theorem dX6_queueAll_17 : decode cX6_queueAll 17 = .ok (.getfield 9, 3) := by decide +kernel
theorem dX6_queueAll_20 : decode cX6_queueAll 20 = .ok (.arraylength, 1) := by decide +kernel
theorem dX6_queueAll_21 : decode cX6_queueAll 21 = .ok (.if_icmp .ge 78, 3) := by decide +kernel
theorem dX6_queueAll_24 : decode cX6_queueAll 24 = .ok (.aload_n 0, 1) := by decide +kernel
theorem dX6_queueAll_25 : decode cX6_queueAll 25 = .ok (.getfield 9, 3) := by decide +kernel
theorem dX6_queueAll_28 : decode cX6_queueAll 28 = .ok (.iload_n 1, 1) := by decide +kernel
theorem dX6_queueAll_29 : decode cX6_queueAll 29 = .ok (.iaload, 1) := by decide +kernel
theorem dX6_queueAll_30 : decode cX6_queueAll 30 = .ok (.iconst (-1), 1) := by decide +kernel
theorem dX6_queueAll_31 : decode cX6_queueAll 31 = .ok (.if_icmp .eq 62, 3) := by decide +kernel
theorem dX6_queueAll_34 : decode cX6_queueAll 34 = .ok (.aload_n 0, 1) := by decide +kernel
theorem dX6_queueAll_35 : decode cX6_queueAll 35 = .ok (.getfield 106, 3) := by decide +kernel
theorem dX6_queueAll_38 : decode cX6_queueAll 38 = .ok (.ifCond .lt 55, 3) := by decide +kernel
theorem dX6_queueAll_41 : decode cX6_queueAll 41 = .ok (.aload_n 0, 1) := by decide +kernel
theorem dX6_queueAll_42 : decode cX6_queueAll 42 = .ok (.getfield 106, 3) := by decide +kernel
theorem dX6_queueAll_45 : decode cX6_queueAll 45 = .ok (.aload_n 0, 1) := by decide +kernel
theorem dX6_queueAll_46 : decode cX6_queueAll 46 = .ok (.getfield 21, 3) := by decide +kernel
theorem dX6_queueAll_49 : decode cX6_queueAll 49 = .ok (.arraylength, 1) := by decide +kernel
theorem dX6_queueAll_50 : decode cX6_queueAll 50 = .ok (.if_icmp .ge 43, 3) := by decide +kernel
theorem dX6_queueAll_53 : decode cX6_queueAll 53 = .ok (.aload_n 0, 1) := by decide +kernel
theorem dX6_queueAll_54 : decode cX6_queueAll 54 = .ok (.getfield 21, 3) := by decide +kernel
theorem dX6_queueAll_57 : decode cX6_queueAll 57 = .ok (.aload_n 0, 1) := by decide +kernel
theorem dX6_queueAll_58 : decode cX6_queueAll 58 = .ok (.getfield 106, 3) := by decide +kernel
theorem dX6_queueAll_61 : decode cX6_queueAll 61 = .ok (.aload_n 0, 1) := by decide +kernel
theorem dX6_queueAll_62 : decode cX6_queueAll 62 = .ok (.getfield 9, 3) := by decide +kernel
theorem dX6_queueAll_65 : decode cX6_queueAll 65 = .ok (.iload_n 1, 1) := by decide +kernel
theorem dX6_queueAll_66 : decode cX6_queueAll 66 = .ok (.iaload, 1) := by decide +kernel
theorem dX6_queueAll_67 : decode cX6_queueAll 67 = .ok (.iastore, 1) := by decide +kernel
theorem dX6_queueAll_68 : decode cX6_queueAll 68 = .ok (.aload_n 0, 1) := by decide +kernel
theorem dX6_queueAll_69 : decode cX6_queueAll 69 = .ok (.getfield 24, 3) := by decide +kernel
theorem dX6_queueAll_72 : decode cX6_queueAll 72 = .ok (.aload_n 0, 1) := by decide +kernel
theorem dX6_queueAll_73 : decode cX6_queueAll 73 = .ok (.getfield 106, 3) := by decide +kernel
theorem dX6_queueAll_76 : decode cX6_queueAll 76 = .ok (.aload_n 0, 1) := by decide +kernel
theorem dX6_queueAll_77 : decode cX6_queueAll 77 = .ok (.getfield 15, 3) := by decide +kernel
theorem dX6_queueAll_80 : decode cX6_queueAll 80 = .ok (.iload_n 1, 1) := by decide +kernel
theorem dX6_queueAll_81 : decode cX6_queueAll 81 = .ok (.iaload, 1) := by decide +kernel
theorem dX6_queueAll_82 : decode cX6_queueAll 82 = .ok (.iastore, 1) := by decide +kernel
theorem dX6_queueAll_83 : decode cX6_queueAll 83 = .ok (.aload_n 0, 1) := by decide +kernel
theorem dX6_queueAll_84 : decode cX6_queueAll 84 = .ok (.dup, 1) := by decide +kernel
theorem dX6_queueAll_85 : decode cX6_queueAll 85 = .ok (.getfield 106, 3) := by decide +kernel
theorem dX6_queueAll_88 : decode cX6_queueAll 88 = .ok (.iconst 1, 1) := by decide +kernel
theorem dX6_queueAll_89 : decode cX6_queueAll 89 = .ok (.iadd, 1) := by decide +kernel
theorem dX6_queueAll_90 : decode cX6_queueAll 90 = .ok (.putfield 106, 3) := by decide +kernel
theorem dX6_queueAll_93 : decode cX6_queueAll 93 = .ok (.iinc 1 1, 3) := by decide +kernel
theorem dX6_queueAll_96 : decode cX6_queueAll 96 = .ok (.goto (-89), 3) := by decide +kernel
theorem dX6_queueAll_99 : decode cX6_queueAll 99 = .ok (.return_, 1) := by decide +kernel
theorem dX6_build_0 : decode cX6_build 0 = .ok (.iload_n 1, 1) := by decide +kernel
theorem dX6_build_1 : decode cX6_build 1 = .ok (.aload_n 0, 1) := by decide +kernel
theorem dX6_build_2 : decode cX6_build 2 = .ok (.getfield 64, 3) := by decide +kernel
theorem dX6_build_5 : decode cX6_build 5 = .ok (.if_icmp .eq 13, 3) := by decide +kernel
theorem dX6_build_8 : decode cX6_build 8 = .ok (.aload_n 0, 1) := by decide +kernel
theorem dX6_build_9 : decode cX6_build 9 = .ok (.dup, 1) := by decide +kernel
theorem dX6_build_10 : decode cX6_build 10 = .ok (.getfield 45, 3) := by decide +kernel
theorem dX6_build_13 : decode cX6_build 13 = .ok (.iconst 1, 1) := by decide +kernel
theorem dX6_build_14 : decode cX6_build 14 = .ok (.iadd, 1) := by decide +kernel
theorem dX6_build_15 : decode cX6_build 15 = .ok (.putfield 45, 3) := by decide +kernel
theorem dX6_build_18 : decode cX6_build 18 = .ok (.aload_n 0, 1) := by decide +kernel
theorem dX6_build_19 : decode cX6_build 19 = .ok (.iload_n 1, 1) := by decide +kernel
theorem dX6_build_20 : decode cX6_build 20 = .ok (.invokevirtual 54, 3) := by decide +kernel
theorem dX6_build_23 : decode cX6_build 23 = .ok (.iconst 0, 1) := by decide +kernel
theorem dX6_build_24 : decode cX6_build 24 = .ok (.istore_n 2, 1) := by decide +kernel
theorem dX6_build_25 : decode cX6_build 25 = .ok (.iload_n 2, 1) := by decide +kernel
theorem dX6_build_26 : decode cX6_build 26 = .ok (.aload_n 0, 1) := by decide +kernel
theorem dX6_build_27 : decode cX6_build 27 = .ok (.getfield 106, 3) := by decide +kernel
theorem dX6_build_30 : decode cX6_build 30 = .ok (.if_icmp .ge 40, 3) := by decide +kernel
theorem dX6_build_33 : decode cX6_build 33 = .ok (.iload_n 2, 1) := by decide +kernel
theorem dX6_build_34 : decode cX6_build 34 = .ok (.aload_n 0, 1) := by decide +kernel
theorem dX6_build_35 : decode cX6_build 35 = .ok (.getfield 21, 3) := by decide +kernel
theorem dX6_build_38 : decode cX6_build 38 = .ok (.arraylength, 1) := by decide +kernel
theorem dX6_build_39 : decode cX6_build 39 = .ok (.if_icmp .ge 31, 3) := by decide +kernel
theorem dX6_build_42 : decode cX6_build 42 = .ok (.aload_n 0, 1) := by decide +kernel
theorem dX6_build_43 : decode cX6_build 43 = .ok (.aload_n 0, 1) := by decide +kernel
theorem dX6_build_44 : decode cX6_build 44 = .ok (.getfield 21, 3) := by decide +kernel
theorem dX6_build_47 : decode cX6_build 47 = .ok (.iload_n 2, 1) := by decide +kernel
theorem dX6_build_48 : decode cX6_build 48 = .ok (.iaload, 1) := by decide +kernel
theorem dX6_build_49 : decode cX6_build 49 = .ok (.aload_n 0, 1) := by decide +kernel
theorem dX6_build_50 : decode cX6_build 50 = .ok (.getfield 24, 3) := by decide +kernel
theorem dX6_build_53 : decode cX6_build 53 = .ok (.iload_n 2, 1) := by decide +kernel
theorem dX6_build_54 : decode cX6_build 54 = .ok (.iaload, 1) := by decide +kernel
theorem dX6_build_55 : decode cX6_build 55 = .ok (.invokevirtual 76, 3) := by decide +kernel
theorem dX6_build_58 : decode cX6_build 58 = .ok (.iconst (-1), 1) := by decide +kernel
theorem dX6_build_59 : decode cX6_build 59 = .ok (.if_icmp .ne 5, 3) := by decide +kernel
theorem dX6_build_62 : decode cX6_build 62 = .ok (.iconst 0, 1) := by decide +kernel
theorem dX6_build_63 : decode cX6_build 63 = .ok (.ireturn, 1) := by decide +kernel
theorem dX6_build_64 : decode cX6_build 64 = .ok (.iinc 2 1, 3) := by decide +kernel
theorem dX6_build_67 : decode cX6_build 67 = .ok (.goto (-42), 3) := by decide +kernel
theorem dX6_build_70 : decode cX6_build 70 = .ok (.iconst 1, 1) := by decide +kernel
theorem dX6_build_71 : decode cX6_build 71 = .ok (.ireturn, 1) := by decide +kernel
theorem dX6_place_0 : decode cX6_place 0 = .ok (.aload_n 0, 1) := by decide +kernel
theorem dX6_place_1 : decode cX6_place 1 = .ok (.iload_n 1, 1) := by decide +kernel
theorem dX6_place_2 : decode cX6_place 2 = .ok (.invokevirtual 94, 3) := by decide +kernel
theorem dX6_place_5 : decode cX6_place 5 = .ok (.istore_n 3, 1) := by decide +kernel
theorem dX6_place_6 : decode cX6_place 6 = .ok (.aload_n 0, 1) := by decide +kernel
theorem dX6_place_7 : decode cX6_place 7 = .ok (.iload_n 3, 1) := by decide +kernel
theorem dX6_place_8 : decode cX6_place 8 = .ok (.invokevirtual 109, 3) := by decide +kernel
theorem dX6_place_11 : decode cX6_place 11 = .ok (.istore 4, 2) := by decide +kernel
theorem dX6_place_13 : decode cX6_place 13 = .ok (.iconst 0, 1) := by decide +kernel
theorem dX6_place_14 : decode cX6_place 14 = .ok (.istore 5, 2) := by decide +kernel
theorem dX6_place_16 : decode cX6_place 16 = .ok (.iload 5, 2) := by decide +kernel
theorem dX6_place_18 : decode cX6_place 18 = .ok (.bipush 64, 2) := by decide +kernel
theorem dX6_place_20 : decode cX6_place 20 = .ok (.if_icmp .ge 51, 3) := by decide +kernel
theorem dX6_place_23 : decode cX6_place 23 = .ok (.iload 4, 2) := by decide +kernel
theorem dX6_place_25 : decode cX6_place 25 = .ok (.aload_n 0, 1) := by decide +kernel
theorem dX6_place_26 : decode cX6_place 26 = .ok (.getfield 31, 3) := by decide +kernel
theorem dX6_place_29 : decode cX6_place 29 = .ok (.if_icmp .lt 42, 3) := by decide +kernel
theorem dX6_place_32 : decode cX6_place 32 = .ok (.aload_n 0, 1) := by decide +kernel
theorem dX6_place_33 : decode cX6_place 33 = .ok (.iload_n 3, 1) := by decide +kernel
theorem dX6_place_34 : decode cX6_place 34 = .ok (.iload 4, 2) := by decide +kernel
theorem dX6_place_36 : decode cX6_place 36 = .ok (.iadd, 1) := by decide +kernel
theorem dX6_place_37 : decode cX6_place 37 = .ok (.aload_n 0, 1) := by decide +kernel
theorem dX6_place_38 : decode cX6_place 38 = .ok (.getfield 64, 3) := by decide +kernel
theorem dX6_place_41 : decode cX6_place 41 = .ok (.iconst 1, 1) := by decide +kernel
theorem dX6_place_42 : decode cX6_place 42 = .ok (.isub, 1) := by decide +kernel
theorem dX6_place_43 : decode cX6_place 43 = .ok (.iand, 1) := by decide +kernel
theorem dX6_place_44 : decode cX6_place 44 = .ok (.invokevirtual 112, 3) := by decide +kernel
theorem dX6_place_47 : decode cX6_place 47 = .ok (.istore 6, 2) := by decide +kernel
theorem dX6_place_49 : decode cX6_place 49 = .ok (.iload 6, 2) := by decide +kernel
theorem dX6_place_51 : decode cX6_place 51 = .ok (.ifCond .ne 7, 3) := by decide +kernel
theorem dX6_place_54 : decode cX6_place 54 = .ok (.iconst (-1), 1) := by decide +kernel
theorem dX6_place_55 : decode cX6_place 55 = .ok (.goto 8, 3) := by decide +kernel
theorem dX6_place_58 : decode cX6_place 58 = .ok (.iload 4, 2) := by decide +kernel
theorem dX6_place_60 : decode cX6_place 60 = .ok (.iload 6, 2) := by decide +kernel
theorem dX6_place_62 : decode cX6_place 62 = .ok (.isub, 1) := by decide +kernel
theorem dX6_place_63 : decode cX6_place 63 = .ok (.istore 4, 2) := by decide +kernel
theorem dX6_place_65 : decode cX6_place 65 = .ok (.iinc 5 1, 3) := by decide +kernel
theorem dX6_place_68 : decode cX6_place 68 = .ok (.goto (-52), 3) := by decide +kernel
theorem dX6_place_71 : decode cX6_place 71 = .ok (.iload_n 3, 1) := by decide +kernel
theorem dX6_place_72 : decode cX6_place 72 = .ok (.iload 4, 2) := by decide +kernel
theorem dX6_place_74 : decode cX6_place 74 = .ok (.iadd, 1) := by decide +kernel
theorem dX6_place_75 : decode cX6_place 75 = .ok (.aload_n 0, 1) := by decide +kernel
theorem dX6_place_76 : decode cX6_place 76 = .ok (.getfield 64, 3) := by decide +kernel
theorem dX6_place_79 : decode cX6_place 79 = .ok (.iconst 1, 1) := by decide +kernel
theorem dX6_place_80 : decode cX6_place 80 = .ok (.isub, 1) := by decide +kernel
theorem dX6_place_81 : decode cX6_place 81 = .ok (.iand, 1) := by decide +kernel
theorem dX6_place_82 : decode cX6_place 82 = .ok (.istore 5, 2) := by decide +kernel
theorem dX6_place_84 : decode cX6_place 84 = .ok (.iload 4, 2) := by decide +kernel
theorem dX6_place_86 : decode cX6_place 86 = .ok (.ifCond .lt 29, 3) := by decide +kernel
theorem dX6_place_89 : decode cX6_place 89 = .ok (.iload 4, 2) := by decide +kernel
theorem dX6_place_91 : decode cX6_place 91 = .ok (.aload_n 0, 1) := by decide +kernel
theorem dX6_place_92 : decode cX6_place 92 = .ok (.getfield 31, 3) := by decide +kernel
theorem dX6_place_95 : decode cX6_place 95 = .ok (.if_icmp .ge 20, 3) := by decide +kernel
theorem dX6_place_98 : decode cX6_place 98 = .ok (.aload_n 0, 1) := by decide +kernel
theorem dX6_place_99 : decode cX6_place 99 = .ok (.iload_n 3, 1) := by decide +kernel
theorem dX6_place_100 : decode cX6_place 100 = .ok (.invokevirtual 91, 3) := by decide +kernel
theorem dX6_place_103 : decode cX6_place 103 = .ok (.ifCond .eq 12, 3) := by decide +kernel
theorem dX6_place_106 : decode cX6_place 106 = .ok (.aload_n 0, 1) := by decide +kernel
theorem dX6_place_107 : decode cX6_place 107 = .ok (.iload 5, 2) := by decide +kernel
theorem dX6_place_109 : decode cX6_place 109 = .ok (.invokevirtual 91, 3) := by decide +kernel
theorem dX6_place_112 : decode cX6_place 112 = .ok (.ifCond .ne 5, 3) := by decide +kernel
theorem dX6_place_115 : decode cX6_place 115 = .ok (.iconst (-1), 1) := by decide +kernel
theorem dX6_place_116 : decode cX6_place 116 = .ok (.ireturn, 1) := by decide +kernel
theorem dX6_place_117 : decode cX6_place 117 = .ok (.aload_n 0, 1) := by decide +kernel
theorem dX6_place_118 : decode cX6_place 118 = .ok (.getfield 9, 3) := by decide +kernel
theorem dX6_place_121 : decode cX6_place 121 = .ok (.iload 5, 2) := by decide +kernel
theorem dX6_place_123 : decode cX6_place 123 = .ok (.iload_n 1, 1) := by decide +kernel
theorem dX6_place_124 : decode cX6_place 124 = .ok (.iastore, 1) := by decide +kernel
theorem dX6_place_125 : decode cX6_place 125 = .ok (.aload_n 0, 1) := by decide +kernel
theorem dX6_place_126 : decode cX6_place 126 = .ok (.getfield 15, 3) := by decide +kernel
theorem dX6_place_129 : decode cX6_place 129 = .ok (.iload 5, 2) := by decide +kernel
theorem dX6_place_131 : decode cX6_place 131 = .ok (.iload_n 2, 1) := by decide +kernel
theorem dX6_place_132 : decode cX6_place 132 = .ok (.iastore, 1) := by decide +kernel
theorem dX6_place_133 : decode cX6_place 133 = .ok (.aload_n 0, 1) := by decide +kernel
theorem dX6_place_134 : decode cX6_place 134 = .ok (.getfield 18, 3) := by decide +kernel
theorem dX6_place_137 : decode cX6_place 137 = .ok (.iload_n 3, 1) := by decide +kernel
theorem dX6_place_138 : decode cX6_place 138 = .ok (.dup2, 1) := by decide +kernel
theorem dX6_place_139 : decode cX6_place 139 = .ok (.iaload, 1) := by decide +kernel
theorem dX6_place_140 : decode cX6_place 140 = .ok (.iconst 1, 1) := by decide +kernel
theorem dX6_place_141 : decode cX6_place 141 = .ok (.iload 4, 2) := by decide +kernel
theorem dX6_place_143 : decode cX6_place 143 = .ok (.ishl, 1) := by decide +kernel
theorem dX6_place_144 : decode cX6_place 144 = .ok (.ior, 1) := by decide +kernel
theorem dX6_place_145 : decode cX6_place 145 = .ok (.iastore, 1) := by decide +kernel
theorem dX6_place_146 : decode cX6_place 146 = .ok (.aload_n 0, 1) := by decide +kernel
theorem dX6_place_147 : decode cX6_place 147 = .ok (.dup, 1) := by decide +kernel
theorem dX6_place_148 : decode cX6_place 148 = .ok (.getfield 67, 3) := by decide +kernel
theorem dX6_place_151 : decode cX6_place 151 = .ok (.iconst 1, 1) := by decide +kernel
theorem dX6_place_152 : decode cX6_place 152 = .ok (.iadd, 1) := by decide +kernel
theorem dX6_place_153 : decode cX6_place 153 = .ok (.putfield 67, 3) := by decide +kernel
theorem dX6_place_156 : decode cX6_place 156 = .ok (.iload 5, 2) := by decide +kernel
theorem dX6_place_158 : decode cX6_place 158 = .ok (.ireturn, 1) := by decide +kernel
theorem dX6_displaceInto_0 : decode cX6_displaceInto 0 = .ok (.aload_n 0, 1) := by decide +kernel
theorem dX6_displaceInto_1 : decode cX6_displaceInto 1 = .ok (.getfield 31, 3) := by decide +kernel
theorem dX6_displaceInto_4 : decode cX6_displaceInto 4 = .ok (.iconst 1, 1) := by decide +kernel
theorem dX6_displaceInto_5 : decode cX6_displaceInto 5 = .ok (.isub, 1) := by decide +kernel
theorem dX6_displaceInto_6 : decode cX6_displaceInto 6 = .ok (.istore_n 2, 1) := by decide +kernel
theorem dX6_displaceInto_7 : decode cX6_displaceInto 7 = .ok (.iload_n 2, 1) := by decide +kernel
theorem dX6_displaceInto_8 : decode cX6_displaceInto 8 = .ok (.iconst 1, 1) := by decide +kernel
theorem dX6_displaceInto_9 : decode cX6_displaceInto 9 = .ok (.if_icmp .lt 71, 3) := by decide +kernel
theorem dX6_displaceInto_12 : decode cX6_displaceInto 12 = .ok (.iload_n 1, 1) := by decide +kernel
theorem dX6_displaceInto_13 : decode cX6_displaceInto 13 = .ok (.iload_n 2, 1) := by decide +kernel
theorem dX6_displaceInto_14 : decode cX6_displaceInto 14 = .ok (.isub, 1) := by decide +kernel
theorem dX6_displaceInto_15 : decode cX6_displaceInto 15 = .ok (.aload_n 0, 1) := by decide +kernel
theorem dX6_displaceInto_16 : decode cX6_displaceInto 16 = .ok (.getfield 64, 3) := by decide +kernel
theorem dX6_displaceInto_19 : decode cX6_displaceInto 19 = .ok (.iconst 1, 1) := by decide +kernel
theorem dX6_displaceInto_20 : decode cX6_displaceInto 20 = .ok (.isub, 1) := by decide +kernel
theorem dX6_displaceInto_21 : decode cX6_displaceInto 21 = .ok (.iand, 1) := by decide +kernel
theorem dX6_displaceInto_22 : decode cX6_displaceInto 22 = .ok (.istore_n 3, 1) := by decide +kernel
theorem dX6_displaceInto_23 : decode cX6_displaceInto 23 = .ok (.iconst 0, 1) := by decide +kernel
theorem dX6_displaceInto_24 : decode cX6_displaceInto 24 = .ok (.istore 4, 2) := by decide +kernel
theorem dX6_displaceInto_26 : decode cX6_displaceInto 26 = .ok (.iload 4, 2) := by decide +kernel
theorem dX6_displaceInto_28 : decode cX6_displaceInto 28 = .ok (.iload_n 2, 1) := by decide +kernel
theorem dX6_displaceInto_29 : decode cX6_displaceInto 29 = .ok (.if_icmp .ge 45, 3) := by decide +kernel
theorem dX6_displaceInto_32 : decode cX6_displaceInto 32 = .ok (.aload_n 0, 1) := by decide +kernel
theorem dX6_displaceInto_33 : decode cX6_displaceInto 33 = .ok (.iload_n 3, 1) := by decide +kernel
theorem dX6_displaceInto_34 : decode cX6_displaceInto 34 = .ok (.invokevirtual 115, 3) := by decide +kernel
theorem dX6_displaceInto_37 : decode cX6_displaceInto 37 = .ok (.iload 4, 2) := by decide +kernel
theorem dX6_displaceInto_39 : decode cX6_displaceInto 39 = .ok (.ishr, 1) := by decide +kernel
theorem dX6_displaceInto_40 : decode cX6_displaceInto 40 = .ok (.iconst 1, 1) := by decide +kernel
theorem dX6_displaceInto_41 : decode cX6_displaceInto 41 = .ok (.iand, 1) := by decide +kernel
theorem dX6_displaceInto_42 : decode cX6_displaceInto 42 = .ok (.ifCond .eq 26, 3) := by decide +kernel
theorem dX6_displaceInto_45 : decode cX6_displaceInto 45 = .ok (.aload_n 0, 1) := by decide +kernel
theorem dX6_displaceInto_46 : decode cX6_displaceInto 46 = .ok (.iload_n 3, 1) := by decide +kernel
theorem dX6_displaceInto_47 : decode cX6_displaceInto 47 = .ok (.iload 4, 2) := by decide +kernel
theorem dX6_displaceInto_49 : decode cX6_displaceInto 49 = .ok (.iload_n 2, 1) := by decide +kernel
theorem dX6_displaceInto_50 : decode cX6_displaceInto 50 = .ok (.invokevirtual 118, 3) := by decide +kernel
theorem dX6_displaceInto_53 : decode cX6_displaceInto 53 = .ok (.aload_n 0, 1) := by decide +kernel
theorem dX6_displaceInto_54 : decode cX6_displaceInto 54 = .ok (.dup, 1) := by decide +kernel
theorem dX6_displaceInto_55 : decode cX6_displaceInto 55 = .ok (.getfield 70, 3) := by decide +kernel
theorem dX6_displaceInto_58 : decode cX6_displaceInto 58 = .ok (.iconst 1, 1) := by decide +kernel
theorem dX6_displaceInto_59 : decode cX6_displaceInto 59 = .ok (.iadd, 1) := by decide +kernel
theorem dX6_displaceInto_60 : decode cX6_displaceInto 60 = .ok (.putfield 70, 3) := by decide +kernel
theorem dX6_displaceInto_63 : decode cX6_displaceInto 63 = .ok (.iload_n 2, 1) := by decide +kernel
theorem dX6_displaceInto_64 : decode cX6_displaceInto 64 = .ok (.iload 4, 2) := by decide +kernel
theorem dX6_displaceInto_66 : decode cX6_displaceInto 66 = .ok (.isub, 1) := by decide +kernel
theorem dX6_displaceInto_67 : decode cX6_displaceInto 67 = .ok (.ireturn, 1) := by decide +kernel
theorem dX6_displaceInto_68 : decode cX6_displaceInto 68 = .ok (.iinc 4 1, 3) := by decide +kernel
theorem dX6_displaceInto_71 : decode cX6_displaceInto 71 = .ok (.goto (-45), 3) := by decide +kernel
theorem dX6_displaceInto_74 : decode cX6_displaceInto 74 = .ok (.iinc 2 (-1), 3) := by decide +kernel
theorem dX6_displaceInto_77 : decode cX6_displaceInto 77 = .ok (.goto (-70), 3) := by decide +kernel
theorem dX6_displaceInto_80 : decode cX6_displaceInto 80 = .ok (.iconst 0, 1) := by decide +kernel
theorem dX6_displaceInto_81 : decode cX6_displaceInto 81 = .ok (.ireturn, 1) := by decide +kernel
theorem dX6_pullFrom_0 : decode cX6_pullFrom 0 = .ok (.iload_n 1, 1) := by decide +kernel
theorem dX6_pullFrom_1 : decode cX6_pullFrom 1 = .ok (.istore_n 2, 1) := by decide +kernel
theorem dX6_pullFrom_2 : decode cX6_pullFrom 2 = .ok (.iconst 0, 1) := by decide +kernel
theorem dX6_pullFrom_3 : decode cX6_pullFrom 3 = .ok (.istore_n 3, 1) := by decide +kernel
theorem dX6_pullFrom_4 : decode cX6_pullFrom 4 = .ok (.iload_n 3, 1) := by decide +kernel
theorem dX6_pullFrom_5 : decode cX6_pullFrom 5 = .ok (.sipush 384, 3) := by decide +kernel
theorem dX6_pullFrom_8 : decode cX6_pullFrom 8 = .ok (.if_icmp .ge 44, 3) := by decide +kernel
theorem dX6_pullFrom_11 : decode cX6_pullFrom 11 = .ok (.aload_n 0, 1) := by decide +kernel
theorem dX6_pullFrom_12 : decode cX6_pullFrom 12 = .ok (.iload_n 2, 1) := by decide +kernel
theorem dX6_pullFrom_13 : decode cX6_pullFrom 13 = .ok (.invokevirtual 121, 3) := by decide +kernel
theorem dX6_pullFrom_16 : decode cX6_pullFrom 16 = .ok (.istore 4, 2) := by decide +kernel
theorem dX6_pullFrom_18 : decode cX6_pullFrom 18 = .ok (.iload 4, 2) := by decide +kernel
theorem dX6_pullFrom_20 : decode cX6_pullFrom 20 = .ok (.ifCond .ne 4, 3) := by decide +kernel
theorem dX6_pullFrom_23 : decode cX6_pullFrom 23 = .ok (.return_, 1) := by decide +kernel
theorem dX6_pullFrom_24 : decode cX6_pullFrom 24 = .ok (.aload_n 0, 1) := by decide +kernel
theorem dX6_pullFrom_25 : decode cX6_pullFrom 25 = .ok (.dup, 1) := by decide +kernel
theorem dX6_pullFrom_26 : decode cX6_pullFrom 26 = .ok (.getfield 42, 3) := by decide +kernel
theorem dX6_pullFrom_29 : decode cX6_pullFrom 29 = .ok (.iconst 1, 1) := by decide +kernel
theorem dX6_pullFrom_30 : decode cX6_pullFrom 30 = .ok (.iadd, 1) := by decide +kernel
theorem dX6_pullFrom_31 : decode cX6_pullFrom 31 = .ok (.putfield 42, 3) := by decide +kernel
theorem dX6_pullFrom_34 : decode cX6_pullFrom 34 = .ok (.iload_n 2, 1) := by decide +kernel
theorem dX6_pullFrom_35 : decode cX6_pullFrom 35 = .ok (.iload 4, 2) := by decide +kernel
theorem dX6_pullFrom_37 : decode cX6_pullFrom 37 = .ok (.iadd, 1) := by decide +kernel
theorem dX6_pullFrom_38 : decode cX6_pullFrom 38 = .ok (.aload_n 0, 1) := by decide +kernel
theorem dX6_pullFrom_39 : decode cX6_pullFrom 39 = .ok (.getfield 64, 3) := by decide +kernel
theorem dX6_pullFrom_42 : decode cX6_pullFrom 42 = .ok (.iconst 1, 1) := by decide +kernel
theorem dX6_pullFrom_43 : decode cX6_pullFrom 43 = .ok (.isub, 1) := by decide +kernel
theorem dX6_pullFrom_44 : decode cX6_pullFrom 44 = .ok (.iand, 1) := by decide +kernel
theorem dX6_pullFrom_45 : decode cX6_pullFrom 45 = .ok (.istore_n 2, 1) := by decide +kernel
theorem dX6_pullFrom_46 : decode cX6_pullFrom 46 = .ok (.iinc 3 1, 3) := by decide +kernel
theorem dX6_pullFrom_49 : decode cX6_pullFrom 49 = .ok (.goto (-45), 3) := by decide +kernel
theorem dX6_pullFrom_52 : decode cX6_pullFrom 52 = .ok (.return_, 1) := by decide +kernel
theorem dX6_pullInto_0 : decode cX6_pullInto 0 = .ok (.aload_n 0, 1) := by decide +kernel
theorem dX6_pullInto_1 : decode cX6_pullInto 1 = .ok (.getfield 31, 3) := by decide +kernel
theorem dX6_pullInto_4 : decode cX6_pullInto 4 = .ok (.iconst 1, 1) := by decide +kernel
theorem dX6_pullInto_5 : decode cX6_pullInto 5 = .ok (.isub, 1) := by decide +kernel
theorem dX6_pullInto_6 : decode cX6_pullInto 6 = .ok (.istore_n 2, 1) := by decide +kernel
theorem dX6_pullInto_7 : decode cX6_pullInto 7 = .ok (.iload_n 2, 1) := by decide +kernel
theorem dX6_pullInto_8 : decode cX6_pullInto 8 = .ok (.ifCond .lt 66, 3) := by decide +kernel
theorem dX6_pullInto_11 : decode cX6_pullInto 11 = .ok (.iload_n 1, 1) := by decide +kernel
theorem dX6_pullInto_12 : decode cX6_pullInto 12 = .ok (.iload_n 2, 1) := by decide +kernel
theorem dX6_pullInto_13 : decode cX6_pullInto 13 = .ok (.isub, 1) := by decide +kernel
theorem dX6_pullInto_14 : decode cX6_pullInto 14 = .ok (.aload_n 0, 1) := by decide +kernel
theorem dX6_pullInto_15 : decode cX6_pullInto 15 = .ok (.getfield 64, 3) := by decide +kernel
theorem dX6_pullInto_18 : decode cX6_pullInto 18 = .ok (.iconst 1, 1) := by decide +kernel
theorem dX6_pullInto_19 : decode cX6_pullInto 19 = .ok (.isub, 1) := by decide +kernel
theorem dX6_pullInto_20 : decode cX6_pullInto 20 = .ok (.iand, 1) := by decide +kernel
theorem dX6_pullInto_21 : decode cX6_pullInto 21 = .ok (.istore_n 3, 1) := by decide +kernel
theorem dX6_pullInto_22 : decode cX6_pullInto 22 = .ok (.aload_n 0, 1) := by decide +kernel
theorem dX6_pullInto_23 : decode cX6_pullInto 23 = .ok (.getfield 31, 3) := by decide +kernel
theorem dX6_pullInto_26 : decode cX6_pullInto 26 = .ok (.iconst 1, 1) := by decide +kernel
theorem dX6_pullInto_27 : decode cX6_pullInto 27 = .ok (.isub, 1) := by decide +kernel
theorem dX6_pullInto_28 : decode cX6_pullInto 28 = .ok (.istore 4, 2) := by decide +kernel
theorem dX6_pullInto_30 : decode cX6_pullInto 30 = .ok (.iload 4, 2) := by decide +kernel
theorem dX6_pullInto_32 : decode cX6_pullInto 32 = .ok (.iload_n 2, 1) := by decide +kernel
theorem dX6_pullInto_33 : decode cX6_pullInto 33 = .ok (.if_icmp .le 35, 3) := by decide +kernel
theorem dX6_pullInto_36 : decode cX6_pullInto 36 = .ok (.aload_n 0, 1) := by decide +kernel
theorem dX6_pullInto_37 : decode cX6_pullInto 37 = .ok (.iload_n 3, 1) := by decide +kernel
theorem dX6_pullInto_38 : decode cX6_pullInto 38 = .ok (.invokevirtual 115, 3) := by decide +kernel
theorem dX6_pullInto_41 : decode cX6_pullInto 41 = .ok (.iload 4, 2) := by decide +kernel
theorem dX6_pullInto_43 : decode cX6_pullInto 43 = .ok (.ishr, 1) := by decide +kernel
theorem dX6_pullInto_44 : decode cX6_pullInto 44 = .ok (.iconst 1, 1) := by decide +kernel
theorem dX6_pullInto_45 : decode cX6_pullInto 45 = .ok (.iand, 1) := by decide +kernel
theorem dX6_pullInto_46 : decode cX6_pullInto 46 = .ok (.ifCond .eq 16, 3) := by decide +kernel
theorem dX6_pullInto_49 : decode cX6_pullInto 49 = .ok (.aload_n 0, 1) := by decide +kernel
theorem dX6_pullInto_50 : decode cX6_pullInto 50 = .ok (.iload_n 3, 1) := by decide +kernel
theorem dX6_pullInto_51 : decode cX6_pullInto 51 = .ok (.iload 4, 2) := by decide +kernel
theorem dX6_pullInto_53 : decode cX6_pullInto 53 = .ok (.iload_n 2, 1) := by decide +kernel
theorem dX6_pullInto_54 : decode cX6_pullInto 54 = .ok (.invokevirtual 118, 3) := by decide +kernel
theorem dX6_pullInto_57 : decode cX6_pullInto 57 = .ok (.iload 4, 2) := by decide +kernel
theorem dX6_pullInto_59 : decode cX6_pullInto 59 = .ok (.iload_n 2, 1) := by decide +kernel
theorem dX6_pullInto_60 : decode cX6_pullInto 60 = .ok (.isub, 1) := by decide +kernel
theorem dX6_pullInto_61 : decode cX6_pullInto 61 = .ok (.ireturn, 1) := by decide +kernel
theorem dX6_pullInto_62 : decode cX6_pullInto 62 = .ok (.iinc 4 (-1), 3) := by decide +kernel
theorem dX6_pullInto_65 : decode cX6_pullInto 65 = .ok (.goto (-35), 3) := by decide +kernel
theorem dX6_pullInto_68 : decode cX6_pullInto 68 = .ok (.iinc 2 (-1), 3) := by decide +kernel
theorem dX6_pullInto_71 : decode cX6_pullInto 71 = .ok (.goto (-64), 3) := by decide +kernel
theorem dX6_pullInto_74 : decode cX6_pullInto 74 = .ok (.iconst 0, 1) := by decide +kernel
theorem dX6_pullInto_75 : decode cX6_pullInto 75 = .ok (.ireturn, 1) := by decide +kernel
theorem dX6_shift_0 : decode cX6_shift 0 = .ok (.iload_n 1, 1) := by decide +kernel
theorem dX6_shift_1 : decode cX6_shift 1 = .ok (.iload_n 2, 1) := by decide +kernel
theorem dX6_shift_2 : decode cX6_shift 2 = .ok (.iadd, 1) := by decide +kernel
theorem dX6_shift_3 : decode cX6_shift 3 = .ok (.aload_n 0, 1) := by decide +kernel
theorem dX6_shift_4 : decode cX6_shift 4 = .ok (.getfield 64, 3) := by decide +kernel
theorem dX6_shift_7 : decode cX6_shift 7 = .ok (.iconst 1, 1) := by decide +kernel
theorem dX6_shift_8 : decode cX6_shift 8 = .ok (.isub, 1) := by decide +kernel
theorem dX6_shift_9 : decode cX6_shift 9 = .ok (.iand, 1) := by decide +kernel
theorem dX6_shift_10 : decode cX6_shift 10 = .ok (.istore 4, 2) := by decide +kernel
theorem dX6_shift_12 : decode cX6_shift 12 = .ok (.iload_n 1, 1) := by decide +kernel
theorem dX6_shift_13 : decode cX6_shift 13 = .ok (.iload_n 3, 1) := by decide +kernel
theorem dX6_shift_14 : decode cX6_shift 14 = .ok (.iadd, 1) := by decide +kernel
theorem dX6_shift_15 : decode cX6_shift 15 = .ok (.aload_n 0, 1) := by decide +kernel
theorem dX6_shift_16 : decode cX6_shift 16 = .ok (.getfield 64, 3) := by decide +kernel
theorem dX6_shift_19 : decode cX6_shift 19 = .ok (.iconst 1, 1) := by decide +kernel
theorem dX6_shift_20 : decode cX6_shift 20 = .ok (.isub, 1) := by decide +kernel
theorem dX6_shift_21 : decode cX6_shift 21 = .ok (.iand, 1) := by decide +kernel
theorem dX6_shift_22 : decode cX6_shift 22 = .ok (.istore 5, 2) := by decide +kernel
theorem dX6_shift_24 : decode cX6_shift 24 = .ok (.iload 4, 2) := by decide +kernel
theorem dX6_shift_26 : decode cX6_shift 26 = .ok (.ifCond .lt 28, 3) := by decide +kernel
theorem dX6_shift_29 : decode cX6_shift 29 = .ok (.iload 4, 2) := by decide +kernel
theorem dX6_shift_31 : decode cX6_shift 31 = .ok (.aload_n 0, 1) := by decide +kernel
theorem dX6_shift_32 : decode cX6_shift 32 = .ok (.getfield 9, 3) := by decide +kernel
theorem dX6_shift_35 : decode cX6_shift 35 = .ok (.arraylength, 1) := by decide +kernel
theorem dX6_shift_36 : decode cX6_shift 36 = .ok (.if_icmp .ge 18, 3) := by decide +kernel
theorem dX6_shift_39 : decode cX6_shift 39 = .ok (.iload 5, 2) := by decide +kernel
theorem dX6_shift_41 : decode cX6_shift 41 = .ok (.ifCond .lt 13, 3) := by decide +kernel
theorem dX6_shift_44 : decode cX6_shift 44 = .ok (.iload 5, 2) := by decide +kernel
theorem dX6_shift_46 : decode cX6_shift 46 = .ok (.aload_n 0, 1) := by decide +kernel
theorem dX6_shift_47 : decode cX6_shift 47 = .ok (.getfield 9, 3) := by decide +kernel
theorem dX6_shift_50 : decode cX6_shift 50 = .ok (.arraylength, 1) := by decide +kernel
theorem dX6_shift_51 : decode cX6_shift 51 = .ok (.if_icmp .lt 4, 3) := by decide +kernel
theorem dX6_shift_54 : decode cX6_shift 54 = .ok (.return_, 1) := by decide +kernel
theorem dX6_shift_55 : decode cX6_shift 55 = .ok (.iload_n 1, 1) := by decide +kernel
theorem dX6_shift_56 : decode cX6_shift 56 = .ok (.ifCond .lt 12, 3) := by decide +kernel
theorem dX6_shift_59 : decode cX6_shift 59 = .ok (.iload_n 1, 1) := by decide +kernel
theorem dX6_shift_60 : decode cX6_shift 60 = .ok (.aload_n 0, 1) := by decide +kernel
theorem dX6_shift_61 : decode cX6_shift 61 = .ok (.getfield 18, 3) := by decide +kernel
theorem dX6_shift_64 : decode cX6_shift 64 = .ok (.arraylength, 1) := by decide +kernel
theorem dX6_shift_65 : decode cX6_shift 65 = .ok (.if_icmp .lt 4, 3) := by decide +kernel
theorem dX6_shift_68 : decode cX6_shift 68 = .ok (.return_, 1) := by decide +kernel
theorem dX6_shift_69 : decode cX6_shift 69 = .ok (.aload_n 0, 1) := by decide +kernel
theorem dX6_shift_70 : decode cX6_shift 70 = .ok (.getfield 9, 3) := by decide +kernel
theorem dX6_shift_73 : decode cX6_shift 73 = .ok (.iload 5, 2) := by decide +kernel
theorem dX6_shift_75 : decode cX6_shift 75 = .ok (.aload_n 0, 1) := by decide +kernel
theorem dX6_shift_76 : decode cX6_shift 76 = .ok (.getfield 9, 3) := by decide +kernel
theorem dX6_shift_79 : decode cX6_shift 79 = .ok (.iload 4, 2) := by decide +kernel
theorem dX6_shift_81 : decode cX6_shift 81 = .ok (.iaload, 1) := by decide +kernel
theorem dX6_shift_82 : decode cX6_shift 82 = .ok (.iastore, 1) := by decide +kernel
theorem dX6_shift_83 : decode cX6_shift 83 = .ok (.aload_n 0, 1) := by decide +kernel
theorem dX6_shift_84 : decode cX6_shift 84 = .ok (.getfield 15, 3) := by decide +kernel
theorem dX6_shift_87 : decode cX6_shift 87 = .ok (.iload 5, 2) := by decide +kernel
theorem dX6_shift_89 : decode cX6_shift 89 = .ok (.aload_n 0, 1) := by decide +kernel
theorem dX6_shift_90 : decode cX6_shift 90 = .ok (.getfield 15, 3) := by decide +kernel
theorem dX6_shift_93 : decode cX6_shift 93 = .ok (.iload 4, 2) := by decide +kernel
theorem dX6_shift_95 : decode cX6_shift 95 = .ok (.iaload, 1) := by decide +kernel
theorem dX6_shift_96 : decode cX6_shift 96 = .ok (.iastore, 1) := by decide +kernel
theorem dX6_shift_97 : decode cX6_shift 97 = .ok (.aload_n 0, 1) := by decide +kernel
theorem dX6_shift_98 : decode cX6_shift 98 = .ok (.getfield 9, 3) := by decide +kernel
theorem dX6_shift_101 : decode cX6_shift 101 = .ok (.iload 4, 2) := by decide +kernel
theorem dX6_shift_103 : decode cX6_shift 103 = .ok (.iconst (-1), 1) := by decide +kernel
theorem dX6_shift_104 : decode cX6_shift 104 = .ok (.iastore, 1) := by decide +kernel
theorem dX6_shift_105 : decode cX6_shift 105 = .ok (.aload_n 0, 1) := by decide +kernel
theorem dX6_shift_106 : decode cX6_shift 106 = .ok (.getfield 15, 3) := by decide +kernel
theorem dX6_shift_109 : decode cX6_shift 109 = .ok (.iload 4, 2) := by decide +kernel
theorem dX6_shift_111 : decode cX6_shift 111 = .ok (.iconst (-1), 1) := by decide +kernel
theorem dX6_shift_112 : decode cX6_shift 112 = .ok (.iastore, 1) := by decide +kernel
theorem dX6_shift_113 : decode cX6_shift 113 = .ok (.aload_n 0, 1) := by decide +kernel
theorem dX6_shift_114 : decode cX6_shift 114 = .ok (.getfield 18, 3) := by decide +kernel
theorem dX6_shift_117 : decode cX6_shift 117 = .ok (.iload_n 1, 1) := by decide +kernel
theorem dX6_shift_118 : decode cX6_shift 118 = .ok (.aload_n 0, 1) := by decide +kernel
theorem dX6_shift_119 : decode cX6_shift 119 = .ok (.getfield 18, 3) := by decide +kernel
theorem dX6_shift_122 : decode cX6_shift 122 = .ok (.iload_n 1, 1) := by decide +kernel
theorem dX6_shift_123 : decode cX6_shift 123 = .ok (.iaload, 1) := by decide +kernel
theorem dX6_shift_124 : decode cX6_shift 124 = .ok (.iconst 1, 1) := by decide +kernel
theorem dX6_shift_125 : decode cX6_shift 125 = .ok (.iload_n 2, 1) := by decide +kernel
theorem dX6_shift_126 : decode cX6_shift 126 = .ok (.ishl, 1) := by decide +kernel
theorem dX6_shift_127 : decode cX6_shift 127 = .ok (.iconst (-1), 1) := by decide +kernel
theorem dX6_shift_128 : decode cX6_shift 128 = .ok (.ixor, 1) := by decide +kernel
theorem dX6_shift_129 : decode cX6_shift 129 = .ok (.iand, 1) := by decide +kernel
theorem dX6_shift_130 : decode cX6_shift 130 = .ok (.iconst 1, 1) := by decide +kernel
theorem dX6_shift_131 : decode cX6_shift 131 = .ok (.iload_n 3, 1) := by decide +kernel
theorem dX6_shift_132 : decode cX6_shift 132 = .ok (.ishl, 1) := by decide +kernel
theorem dX6_shift_133 : decode cX6_shift 133 = .ok (.ior, 1) := by decide +kernel
theorem dX6_shift_134 : decode cX6_shift 134 = .ok (.iastore, 1) := by decide +kernel
theorem dX6_shift_135 : decode cX6_shift 135 = .ok (.return_, 1) := by decide +kernel
theorem dX6_hasBucket_0 : decode cX6_hasBucket 0 = .ok (.iload_n 1, 1) := by decide +kernel
theorem dX6_hasBucket_1 : decode cX6_hasBucket 1 = .ok (.ifCond .lt 21, 3) := by decide +kernel
theorem dX6_hasBucket_4 : decode cX6_hasBucket 4 = .ok (.iload_n 1, 1) := by decide +kernel
theorem dX6_hasBucket_5 : decode cX6_hasBucket 5 = .ok (.aload_n 0, 1) := by decide +kernel
theorem dX6_hasBucket_6 : decode cX6_hasBucket 6 = .ok (.getfield 64, 3) := by decide +kernel
theorem dX6_hasBucket_9 : decode cX6_hasBucket 9 = .ok (.if_icmp .ge 13, 3) := by decide +kernel
theorem dX6_hasBucket_12 : decode cX6_hasBucket 12 = .ok (.iload_n 1, 1) := by decide +kernel
theorem dX6_hasBucket_13 : decode cX6_hasBucket 13 = .ok (.bipush 64, 2) := by decide +kernel
theorem dX6_hasBucket_15 : decode cX6_hasBucket 15 = .ok (.if_icmp .ge 7, 3) := by decide +kernel
theorem dX6_hasBucket_18 : decode cX6_hasBucket 18 = .ok (.iconst 1, 1) := by decide +kernel
theorem dX6_hasBucket_19 : decode cX6_hasBucket 19 = .ok (.goto 4, 3) := by decide +kernel
theorem dX6_hasBucket_22 : decode cX6_hasBucket 22 = .ok (.iconst 0, 1) := by decide +kernel
theorem dX6_hasBucket_23 : decode cX6_hasBucket 23 = .ok (.ireturn, 1) := by decide +kernel
theorem dX6_keyIn_0 : decode cX6_keyIn 0 = .ok (.iload_n 1, 1) := by decide +kernel
theorem dX6_keyIn_1 : decode cX6_keyIn 1 = .ok (.ifCond .lt 26, 3) := by decide +kernel
theorem dX6_keyIn_4 : decode cX6_keyIn 4 = .ok (.iload_n 1, 1) := by decide +kernel
theorem dX6_keyIn_5 : decode cX6_keyIn 5 = .ok (.aload_n 0, 1) := by decide +kernel
theorem dX6_keyIn_6 : decode cX6_keyIn 6 = .ok (.getfield 64, 3) := by decide +kernel
theorem dX6_keyIn_9 : decode cX6_keyIn 9 = .ok (.if_icmp .ge 18, 3) := by decide +kernel
theorem dX6_keyIn_12 : decode cX6_keyIn 12 = .ok (.iload_n 1, 1) := by decide +kernel
theorem dX6_keyIn_13 : decode cX6_keyIn 13 = .ok (.bipush 64, 2) := by decide +kernel
theorem dX6_keyIn_15 : decode cX6_keyIn 15 = .ok (.if_icmp .ge 12, 3) := by decide +kernel
theorem dX6_keyIn_18 : decode cX6_keyIn 18 = .ok (.aload_n 0, 1) := by decide +kernel
theorem dX6_keyIn_19 : decode cX6_keyIn 19 = .ok (.getfield 9, 3) := by decide +kernel
theorem dX6_keyIn_22 : decode cX6_keyIn 22 = .ok (.iload_n 1, 1) := by decide +kernel
theorem dX6_keyIn_23 : decode cX6_keyIn 23 = .ok (.iaload, 1) := by decide +kernel
theorem dX6_keyIn_24 : decode cX6_keyIn 24 = .ok (.goto 4, 3) := by decide +kernel
theorem dX6_keyIn_27 : decode cX6_keyIn 27 = .ok (.iconst (-1), 1) := by decide +kernel
theorem dX6_keyIn_28 : decode cX6_keyIn 28 = .ok (.ireturn, 1) := by decide +kernel
theorem dX6_valueIn_0 : decode cX6_valueIn 0 = .ok (.iload_n 1, 1) := by decide +kernel
theorem dX6_valueIn_1 : decode cX6_valueIn 1 = .ok (.ifCond .lt 26, 3) := by decide +kernel
theorem dX6_valueIn_4 : decode cX6_valueIn 4 = .ok (.iload_n 1, 1) := by decide +kernel
theorem dX6_valueIn_5 : decode cX6_valueIn 5 = .ok (.aload_n 0, 1) := by decide +kernel
theorem dX6_valueIn_6 : decode cX6_valueIn 6 = .ok (.getfield 64, 3) := by decide +kernel
theorem dX6_valueIn_9 : decode cX6_valueIn 9 = .ok (.if_icmp .ge 18, 3) := by decide +kernel
theorem dX6_valueIn_12 : decode cX6_valueIn 12 = .ok (.iload_n 1, 1) := by decide +kernel
theorem dX6_valueIn_13 : decode cX6_valueIn 13 = .ok (.bipush 64, 2) := by decide +kernel
theorem dX6_valueIn_15 : decode cX6_valueIn 15 = .ok (.if_icmp .ge 12, 3) := by decide +kernel
theorem dX6_valueIn_18 : decode cX6_valueIn 18 = .ok (.aload_n 0, 1) := by decide +kernel
theorem dX6_valueIn_19 : decode cX6_valueIn 19 = .ok (.getfield 15, 3) := by decide +kernel
theorem dX6_valueIn_22 : decode cX6_valueIn 22 = .ok (.iload_n 1, 1) := by decide +kernel
theorem dX6_valueIn_23 : decode cX6_valueIn 23 = .ok (.iaload, 1) := by decide +kernel
theorem dX6_valueIn_24 : decode cX6_valueIn 24 = .ok (.goto 4, 3) := by decide +kernel
theorem dX6_valueIn_27 : decode cX6_valueIn 27 = .ok (.iconst (-1), 1) := by decide +kernel
theorem dX6_valueIn_28 : decode cX6_valueIn 28 = .ok (.ireturn, 1) := by decide +kernel
theorem dX6_hopsIn_0 : decode cX6_hopsIn 0 = .ok (.iload_n 1, 1) := by decide +kernel
theorem dX6_hopsIn_1 : decode cX6_hopsIn 1 = .ok (.ifCond .lt 26, 3) := by decide +kernel
theorem dX6_hopsIn_4 : decode cX6_hopsIn 4 = .ok (.iload_n 1, 1) := by decide +kernel
theorem dX6_hopsIn_5 : decode cX6_hopsIn 5 = .ok (.aload_n 0, 1) := by decide +kernel
theorem dX6_hopsIn_6 : decode cX6_hopsIn 6 = .ok (.getfield 64, 3) := by decide +kernel
theorem dX6_hopsIn_9 : decode cX6_hopsIn 9 = .ok (.if_icmp .ge 18, 3) := by decide +kernel
theorem dX6_hopsIn_12 : decode cX6_hopsIn 12 = .ok (.iload_n 1, 1) := by decide +kernel
theorem dX6_hopsIn_13 : decode cX6_hopsIn 13 = .ok (.bipush 64, 2) := by decide +kernel
theorem dX6_hopsIn_15 : decode cX6_hopsIn 15 = .ok (.if_icmp .ge 12, 3) := by decide +kernel
theorem dX6_hopsIn_18 : decode cX6_hopsIn 18 = .ok (.aload_n 0, 1) := by decide +kernel
theorem dX6_hopsIn_19 : decode cX6_hopsIn 19 = .ok (.getfield 18, 3) := by decide +kernel
theorem dX6_hopsIn_22 : decode cX6_hopsIn 22 = .ok (.iload_n 1, 1) := by decide +kernel
theorem dX6_hopsIn_23 : decode cX6_hopsIn 23 = .ok (.iaload, 1) := by decide +kernel
theorem dX6_hopsIn_24 : decode cX6_hopsIn 24 = .ok (.goto 4, 3) := by decide +kernel
theorem dX6_hopsIn_27 : decode cX6_hopsIn 27 = .ok (.iconst 0, 1) := by decide +kernel
theorem dX6_hopsIn_28 : decode cX6_hopsIn 28 = .ok (.ireturn, 1) := by decide +kernel
theorem dX6_stepsToFree_0 : decode cX6_stepsToFree 0 = .ok (.iconst 0, 1) := by decide +kernel
theorem dX6_stepsToFree_1 : decode cX6_stepsToFree 1 = .ok (.istore_n 2, 1) := by decide +kernel
theorem dX6_stepsToFree_2 : decode cX6_stepsToFree 2 = .ok (.iload_n 2, 1) := by decide +kernel
theorem dX6_stepsToFree_3 : decode cX6_stepsToFree 3 = .ok (.aload_n 0, 1) := by decide +kernel
theorem dX6_stepsToFree_4 : decode cX6_stepsToFree 4 = .ok (.getfield 64, 3) := by decide +kernel
theorem dX6_stepsToFree_7 : decode cX6_stepsToFree 7 = .ok (.if_icmp .ge 29, 3) := by decide +kernel
theorem dX6_stepsToFree_10 : decode cX6_stepsToFree 10 = .ok (.aload_n 0, 1) := by decide +kernel
theorem dX6_stepsToFree_11 : decode cX6_stepsToFree 11 = .ok (.iload_n 1, 1) := by decide +kernel
theorem dX6_stepsToFree_12 : decode cX6_stepsToFree 12 = .ok (.iload_n 2, 1) := by decide +kernel
theorem dX6_stepsToFree_13 : decode cX6_stepsToFree 13 = .ok (.iadd, 1) := by decide +kernel
theorem dX6_stepsToFree_14 : decode cX6_stepsToFree 14 = .ok (.aload_n 0, 1) := by decide +kernel
theorem dX6_stepsToFree_15 : decode cX6_stepsToFree 15 = .ok (.getfield 64, 3) := by decide +kernel
theorem dX6_stepsToFree_18 : decode cX6_stepsToFree 18 = .ok (.iconst 1, 1) := by decide +kernel
theorem dX6_stepsToFree_19 : decode cX6_stepsToFree 19 = .ok (.isub, 1) := by decide +kernel
theorem dX6_stepsToFree_20 : decode cX6_stepsToFree 20 = .ok (.iand, 1) := by decide +kernel
theorem dX6_stepsToFree_21 : decode cX6_stepsToFree 21 = .ok (.invokevirtual 124, 3) := by decide +kernel
theorem dX6_stepsToFree_24 : decode cX6_stepsToFree 24 = .ok (.iconst (-1), 1) := by decide +kernel
theorem dX6_stepsToFree_25 : decode cX6_stepsToFree 25 = .ok (.if_icmp .ne 5, 3) := by decide +kernel
theorem dX6_stepsToFree_28 : decode cX6_stepsToFree 28 = .ok (.iload_n 2, 1) := by decide +kernel
theorem dX6_stepsToFree_29 : decode cX6_stepsToFree 29 = .ok (.ireturn, 1) := by decide +kernel
theorem dX6_stepsToFree_30 : decode cX6_stepsToFree 30 = .ok (.iinc 2 1, 3) := by decide +kernel
theorem dX6_stepsToFree_33 : decode cX6_stepsToFree 33 = .ok (.goto (-31), 3) := by decide +kernel
theorem dX6_stepsToFree_36 : decode cX6_stepsToFree 36 = .ok (.iconst (-1), 1) := by decide +kernel
theorem dX6_stepsToFree_37 : decode cX6_stepsToFree 37 = .ok (.ireturn, 1) := by decide +kernel
theorem dX6_homeFor_0 : decode cX6_homeFor 0 = .ok (.iload_n 1, 1) := by decide +kernel
theorem dX6_homeFor_1 : decode cX6_homeFor 1 = .ok (.aload_n 0, 1) := by decide +kernel
theorem dX6_homeFor_2 : decode cX6_homeFor 2 = .ok (.getfield 35, 3) := by decide +kernel
theorem dX6_homeFor_5 : decode cX6_homeFor 5 = .ok (.imul, 1) := by decide +kernel
theorem dX6_homeFor_6 : decode cX6_homeFor 6 = .ok (.sipush 997, 3) := by decide +kernel
theorem dX6_homeFor_9 : decode cX6_homeFor 9 = .ok (.irem, 1) := by decide +kernel
theorem dX6_homeFor_10 : decode cX6_homeFor 10 = .ok (.aload_n 0, 1) := by decide +kernel
theorem dX6_homeFor_11 : decode cX6_homeFor 11 = .ok (.getfield 64, 3) := by decide +kernel
theorem dX6_homeFor_14 : decode cX6_homeFor 14 = .ok (.iconst 1, 1) := by decide +kernel
theorem dX6_homeFor_15 : decode cX6_homeFor 15 = .ok (.isub, 1) := by decide +kernel
theorem dX6_homeFor_16 : decode cX6_homeFor 16 = .ok (.iand, 1) := by decide +kernel
theorem dX6_homeFor_17 : decode cX6_homeFor 17 = .ok (.ireturn, 1) := by decide +kernel
theorem dX6_bucketWith_0 : decode cX6_bucketWith 0 = .ok (.aload_n 0, 1) := by decide +kernel
theorem dX6_bucketWith_1 : decode cX6_bucketWith 1 = .ok (.iload_n 1, 1) := by decide +kernel
theorem dX6_bucketWith_2 : decode cX6_bucketWith 2 = .ok (.invokevirtual 94, 3) := by decide +kernel
theorem dX6_bucketWith_5 : decode cX6_bucketWith 5 = .ok (.istore_n 2, 1) := by decide +kernel
theorem dX6_bucketWith_6 : decode cX6_bucketWith 6 = .ok (.iconst 0, 1) := by decide +kernel
theorem dX6_bucketWith_7 : decode cX6_bucketWith 7 = .ok (.istore_n 3, 1) := by decide +kernel
theorem dX6_bucketWith_8 : decode cX6_bucketWith 8 = .ok (.iload_n 3, 1) := by decide +kernel
theorem dX6_bucketWith_9 : decode cX6_bucketWith 9 = .ok (.aload_n 0, 1) := by decide +kernel
theorem dX6_bucketWith_10 : decode cX6_bucketWith 10 = .ok (.getfield 31, 3) := by decide +kernel
theorem dX6_bucketWith_13 : decode cX6_bucketWith 13 = .ok (.if_icmp .ge 46, 3) := by decide +kernel
theorem dX6_bucketWith_16 : decode cX6_bucketWith 16 = .ok (.iload_n 2, 1) := by decide +kernel
theorem dX6_bucketWith_17 : decode cX6_bucketWith 17 = .ok (.iload_n 3, 1) := by decide +kernel
theorem dX6_bucketWith_18 : decode cX6_bucketWith 18 = .ok (.iadd, 1) := by decide +kernel
theorem dX6_bucketWith_19 : decode cX6_bucketWith 19 = .ok (.aload_n 0, 1) := by decide +kernel
theorem dX6_bucketWith_20 : decode cX6_bucketWith 20 = .ok (.getfield 64, 3) := by decide +kernel
theorem dX6_bucketWith_23 : decode cX6_bucketWith 23 = .ok (.iconst 1, 1) := by decide +kernel
theorem dX6_bucketWith_24 : decode cX6_bucketWith 24 = .ok (.isub, 1) := by decide +kernel
theorem dX6_bucketWith_25 : decode cX6_bucketWith 25 = .ok (.iand, 1) := by decide +kernel
theorem dX6_bucketWith_26 : decode cX6_bucketWith 26 = .ok (.istore 4, 2) := by decide +kernel
theorem dX6_bucketWith_28 : decode cX6_bucketWith 28 = .ok (.aload_n 0, 1) := by decide +kernel
theorem dX6_bucketWith_29 : decode cX6_bucketWith 29 = .ok (.iload_n 2, 1) := by decide +kernel
theorem dX6_bucketWith_30 : decode cX6_bucketWith 30 = .ok (.invokevirtual 115, 3) := by decide +kernel
theorem dX6_bucketWith_33 : decode cX6_bucketWith 33 = .ok (.iload_n 3, 1) := by decide +kernel
theorem dX6_bucketWith_34 : decode cX6_bucketWith 34 = .ok (.ishr, 1) := by decide +kernel
theorem dX6_bucketWith_35 : decode cX6_bucketWith 35 = .ok (.iconst 1, 1) := by decide +kernel
theorem dX6_bucketWith_36 : decode cX6_bucketWith 36 = .ok (.iand, 1) := by decide +kernel
theorem dX6_bucketWith_37 : decode cX6_bucketWith 37 = .ok (.ifCond .eq 16, 3) := by decide +kernel
theorem dX6_bucketWith_40 : decode cX6_bucketWith 40 = .ok (.aload_n 0, 1) := by decide +kernel
theorem dX6_bucketWith_41 : decode cX6_bucketWith 41 = .ok (.iload 4, 2) := by decide +kernel
theorem dX6_bucketWith_43 : decode cX6_bucketWith 43 = .ok (.invokevirtual 124, 3) := by decide +kernel
theorem dX6_bucketWith_46 : decode cX6_bucketWith 46 = .ok (.iload_n 1, 1) := by decide +kernel
theorem dX6_bucketWith_47 : decode cX6_bucketWith 47 = .ok (.if_icmp .ne 6, 3) := by decide +kernel
theorem dX6_bucketWith_50 : decode cX6_bucketWith 50 = .ok (.iload 4, 2) := by decide +kernel
theorem dX6_bucketWith_52 : decode cX6_bucketWith 52 = .ok (.ireturn, 1) := by decide +kernel
theorem dX6_bucketWith_53 : decode cX6_bucketWith 53 = .ok (.iinc 3 1, 3) := by decide +kernel
theorem dX6_bucketWith_56 : decode cX6_bucketWith 56 = .ok (.goto (-48), 3) := by decide +kernel
theorem dX6_bucketWith_59 : decode cX6_bucketWith 59 = .ok (.iconst (-1), 1) := by decide +kernel
theorem dX6_bucketWith_60 : decode cX6_bucketWith 60 = .ok (.ireturn, 1) := by decide +kernel
theorem dX6_stepsFromHome_0 : decode cX6_stepsFromHome 0 = .ok (.aload_n 0, 1) := by decide +kernel
theorem dX6_stepsFromHome_1 : decode cX6_stepsFromHome 1 = .ok (.iload_n 1, 1) := by decide +kernel
theorem dX6_stepsFromHome_2 : decode cX6_stepsFromHome 2 = .ok (.invokevirtual 124, 3) := by decide +kernel
theorem dX6_stepsFromHome_5 : decode cX6_stepsFromHome 5 = .ok (.istore_n 2, 1) := by decide +kernel
theorem dX6_stepsFromHome_6 : decode cX6_stepsFromHome 6 = .ok (.iload_n 2, 1) := by decide +kernel
theorem dX6_stepsFromHome_7 : decode cX6_stepsFromHome 7 = .ok (.iconst (-1), 1) := by decide +kernel
theorem dX6_stepsFromHome_8 : decode cX6_stepsFromHome 8 = .ok (.if_icmp .ne 7, 3) := by decide +kernel
theorem dX6_stepsFromHome_11 : decode cX6_stepsFromHome 11 = .ok (.iconst (-1), 1) := by decide +kernel
theorem dX6_stepsFromHome_12 : decode cX6_stepsFromHome 12 = .ok (.goto 17, 3) := by decide +kernel
theorem dX6_stepsFromHome_15 : decode cX6_stepsFromHome 15 = .ok (.iload_n 1, 1) := by decide +kernel
theorem dX6_stepsFromHome_16 : decode cX6_stepsFromHome 16 = .ok (.aload_n 0, 1) := by decide +kernel
theorem dX6_stepsFromHome_17 : decode cX6_stepsFromHome 17 = .ok (.iload_n 2, 1) := by decide +kernel
theorem dX6_stepsFromHome_18 : decode cX6_stepsFromHome 18 = .ok (.invokevirtual 94, 3) := by decide +kernel
theorem dX6_stepsFromHome_21 : decode cX6_stepsFromHome 21 = .ok (.isub, 1) := by decide +kernel
theorem dX6_stepsFromHome_22 : decode cX6_stepsFromHome 22 = .ok (.aload_n 0, 1) := by decide +kernel
theorem dX6_stepsFromHome_23 : decode cX6_stepsFromHome 23 = .ok (.getfield 64, 3) := by decide +kernel
theorem dX6_stepsFromHome_26 : decode cX6_stepsFromHome 26 = .ok (.iconst 1, 1) := by decide +kernel
theorem dX6_stepsFromHome_27 : decode cX6_stepsFromHome 27 = .ok (.isub, 1) := by decide +kernel
theorem dX6_stepsFromHome_28 : decode cX6_stepsFromHome 28 = .ok (.iand, 1) := by decide +kernel
theorem dX6_stepsFromHome_29 : decode cX6_stepsFromHome 29 = .ok (.ireturn, 1) := by decide +kernel
theorem dX6_mostSteps_0 : decode cX6_mostSteps 0 = .ok (.iconst 0, 1) := by decide +kernel
theorem dX6_mostSteps_1 : decode cX6_mostSteps 1 = .ok (.istore_n 1, 1) := by decide +kernel
theorem dX6_mostSteps_2 : decode cX6_mostSteps 2 = .ok (.iconst 0, 1) := by decide +kernel
theorem dX6_mostSteps_3 : decode cX6_mostSteps 3 = .ok (.istore_n 2, 1) := by decide +kernel
theorem dX6_mostSteps_4 : decode cX6_mostSteps 4 = .ok (.iload_n 2, 1) := by decide +kernel
theorem dX6_mostSteps_5 : decode cX6_mostSteps 5 = .ok (.aload_n 0, 1) := by decide +kernel
theorem dX6_mostSteps_6 : decode cX6_mostSteps 6 = .ok (.getfield 64, 3) := by decide +kernel
theorem dX6_mostSteps_9 : decode cX6_mostSteps 9 = .ok (.if_icmp .ge 19, 3) := by decide +kernel
theorem dX6_mostSteps_12 : decode cX6_mostSteps 12 = .ok (.iload_n 1, 1) := by decide +kernel
theorem dX6_mostSteps_13 : decode cX6_mostSteps 13 = .ok (.aload_n 0, 1) := by decide +kernel
theorem dX6_mostSteps_14 : decode cX6_mostSteps 14 = .ok (.iload_n 2, 1) := by decide +kernel
theorem dX6_mostSteps_15 : decode cX6_mostSteps 15 = .ok (.invokevirtual 97, 3) := by decide +kernel
theorem dX6_mostSteps_18 : decode cX6_mostSteps 18 = .ok (.invokestatic 127, 3) := by decide +kernel
theorem dX6_mostSteps_21 : decode cX6_mostSteps 21 = .ok (.istore_n 1, 1) := by decide +kernel
theorem dX6_mostSteps_22 : decode cX6_mostSteps 22 = .ok (.iinc 2 1, 3) := by decide +kernel
theorem dX6_mostSteps_25 : decode cX6_mostSteps 25 = .ok (.goto (-21), 3) := by decide +kernel
theorem dX6_mostSteps_28 : decode cX6_mostSteps 28 = .ok (.iload_n 1, 1) := by decide +kernel
theorem dX6_mostSteps_29 : decode cX6_mostSteps 29 = .ok (.ireturn, 1) := by decide +kernel
theorem dX6_sumOfSteps_0 : decode cX6_sumOfSteps 0 = .ok (.iconst 0, 1) := by decide +kernel
theorem dX6_sumOfSteps_1 : decode cX6_sumOfSteps 1 = .ok (.istore_n 1, 1) := by decide +kernel
theorem dX6_sumOfSteps_2 : decode cX6_sumOfSteps 2 = .ok (.iconst 0, 1) := by decide +kernel
theorem dX6_sumOfSteps_3 : decode cX6_sumOfSteps 3 = .ok (.istore_n 2, 1) := by decide +kernel
theorem dX6_sumOfSteps_4 : decode cX6_sumOfSteps 4 = .ok (.iload_n 2, 1) := by decide +kernel
theorem dX6_sumOfSteps_5 : decode cX6_sumOfSteps 5 = .ok (.aload_n 0, 1) := by decide +kernel
theorem dX6_sumOfSteps_6 : decode cX6_sumOfSteps 6 = .ok (.getfield 64, 3) := by decide +kernel
theorem dX6_sumOfSteps_9 : decode cX6_sumOfSteps 9 = .ok (.if_icmp .ge 21, 3) := by decide +kernel
theorem dX6_sumOfSteps_12 : decode cX6_sumOfSteps 12 = .ok (.iload_n 1, 1) := by decide +kernel
theorem dX6_sumOfSteps_13 : decode cX6_sumOfSteps 13 = .ok (.iconst 0, 1) := by decide +kernel
theorem dX6_sumOfSteps_14 : decode cX6_sumOfSteps 14 = .ok (.aload_n 0, 1) := by decide +kernel
theorem dX6_sumOfSteps_15 : decode cX6_sumOfSteps 15 = .ok (.iload_n 2, 1) := by decide +kernel
theorem dX6_sumOfSteps_16 : decode cX6_sumOfSteps 16 = .ok (.invokevirtual 97, 3) := by decide +kernel
theorem dX6_sumOfSteps_19 : decode cX6_sumOfSteps 19 = .ok (.invokestatic 127, 3) := by decide +kernel
theorem dX6_sumOfSteps_22 : decode cX6_sumOfSteps 22 = .ok (.iadd, 1) := by decide +kernel
theorem dX6_sumOfSteps_23 : decode cX6_sumOfSteps 23 = .ok (.istore_n 1, 1) := by decide +kernel
theorem dX6_sumOfSteps_24 : decode cX6_sumOfSteps 24 = .ok (.iinc 2 1, 3) := by decide +kernel
theorem dX6_sumOfSteps_27 : decode cX6_sumOfSteps 27 = .ok (.goto (-23), 3) := by decide +kernel
theorem dX6_sumOfSteps_30 : decode cX6_sumOfSteps 30 = .ok (.iload_n 1, 1) := by decide +kernel
theorem dX6_sumOfSteps_31 : decode cX6_sumOfSteps 31 = .ok (.ireturn, 1) := by decide +kernel
theorem dX6_strayEntries_0 : decode cX6_strayEntries 0 = .ok (.iconst 0, 1) := by decide +kernel
theorem dX6_strayEntries_1 : decode cX6_strayEntries 1 = .ok (.istore_n 1, 1) := by decide +kernel
theorem dX6_strayEntries_2 : decode cX6_strayEntries 2 = .ok (.iconst 0, 1) := by decide +kernel
theorem dX6_strayEntries_3 : decode cX6_strayEntries 3 = .ok (.istore_n 2, 1) := by decide +kernel
theorem dX6_strayEntries_4 : decode cX6_strayEntries 4 = .ok (.iload_n 2, 1) := by decide +kernel
theorem dX6_strayEntries_5 : decode cX6_strayEntries 5 = .ok (.aload_n 0, 1) := by decide +kernel
theorem dX6_strayEntries_6 : decode cX6_strayEntries 6 = .ok (.getfield 64, 3) := by decide +kernel
theorem dX6_strayEntries_9 : decode cX6_strayEntries 9 = .ok (.if_icmp .ge 24, 3) := by decide +kernel
theorem dX6_strayEntries_12 : decode cX6_strayEntries 12 = .ok (.aload_n 0, 1) := by decide +kernel
theorem dX6_strayEntries_13 : decode cX6_strayEntries 13 = .ok (.iload_n 2, 1) := by decide +kernel
theorem dX6_strayEntries_14 : decode cX6_strayEntries 14 = .ok (.invokevirtual 97, 3) := by decide +kernel
theorem dX6_strayEntries_17 : decode cX6_strayEntries 17 = .ok (.aload_n 0, 1) := by decide +kernel
theorem dX6_strayEntries_18 : decode cX6_strayEntries 18 = .ok (.getfield 31, 3) := by decide +kernel
theorem dX6_strayEntries_21 : decode cX6_strayEntries 21 = .ok (.if_icmp .lt 6, 3) := by decide +kernel
theorem dX6_strayEntries_24 : decode cX6_strayEntries 24 = .ok (.iinc 1 1, 3) := by decide +kernel
theorem dX6_strayEntries_27 : decode cX6_strayEntries 27 = .ok (.iinc 2 1, 3) := by decide +kernel
theorem dX6_strayEntries_30 : decode cX6_strayEntries 30 = .ok (.goto (-26), 3) := by decide +kernel
theorem dX6_strayEntries_33 : decode cX6_strayEntries 33 = .ok (.iload_n 1, 1) := by decide +kernel
theorem dX6_strayEntries_34 : decode cX6_strayEntries 34 = .ok (.ireturn, 1) := by decide +kernel
theorem dX6_wrongHops_0 : decode cX6_wrongHops 0 = .ok (.iconst 0, 1) := by decide +kernel
theorem dX6_wrongHops_1 : decode cX6_wrongHops 1 = .ok (.istore_n 1, 1) := by decide +kernel
theorem dX6_wrongHops_2 : decode cX6_wrongHops 2 = .ok (.iconst 0, 1) := by decide +kernel
theorem dX6_wrongHops_3 : decode cX6_wrongHops 3 = .ok (.istore_n 2, 1) := by decide +kernel
theorem dX6_wrongHops_4 : decode cX6_wrongHops 4 = .ok (.iload_n 2, 1) := by decide +kernel
theorem dX6_wrongHops_5 : decode cX6_wrongHops 5 = .ok (.aload_n 0, 1) := by decide +kernel
theorem dX6_wrongHops_6 : decode cX6_wrongHops 6 = .ok (.getfield 64, 3) := by decide +kernel
theorem dX6_wrongHops_9 : decode cX6_wrongHops 9 = .ok (.if_icmp .ge 109, 3) := by decide +kernel
theorem dX6_wrongHops_12 : decode cX6_wrongHops 12 = .ok (.iconst 0, 1) := by decide +kernel
theorem dX6_wrongHops_13 : decode cX6_wrongHops 13 = .ok (.istore_n 3, 1) := by decide +kernel
theorem dX6_wrongHops_14 : decode cX6_wrongHops 14 = .ok (.iload_n 3, 1) := by decide +kernel
theorem dX6_wrongHops_15 : decode cX6_wrongHops 15 = .ok (.aload_n 0, 1) := by decide +kernel
theorem dX6_wrongHops_16 : decode cX6_wrongHops 16 = .ok (.getfield 31, 3) := by decide +kernel
theorem dX6_wrongHops_19 : decode cX6_wrongHops 19 = .ok (.if_icmp .ge 77, 3) := by decide +kernel
theorem dX6_wrongHops_22 : decode cX6_wrongHops 22 = .ok (.aload_n 0, 1) := by decide +kernel
theorem dX6_wrongHops_23 : decode cX6_wrongHops 23 = .ok (.iload_n 2, 1) := by decide +kernel
theorem dX6_wrongHops_24 : decode cX6_wrongHops 24 = .ok (.iload_n 3, 1) := by decide +kernel
theorem dX6_wrongHops_25 : decode cX6_wrongHops 25 = .ok (.iadd, 1) := by decide +kernel
theorem dX6_wrongHops_26 : decode cX6_wrongHops 26 = .ok (.aload_n 0, 1) := by decide +kernel
theorem dX6_wrongHops_27 : decode cX6_wrongHops 27 = .ok (.getfield 64, 3) := by decide +kernel
theorem dX6_wrongHops_30 : decode cX6_wrongHops 30 = .ok (.iconst 1, 1) := by decide +kernel
theorem dX6_wrongHops_31 : decode cX6_wrongHops 31 = .ok (.isub, 1) := by decide +kernel
theorem dX6_wrongHops_32 : decode cX6_wrongHops 32 = .ok (.iand, 1) := by decide +kernel
theorem dX6_wrongHops_33 : decode cX6_wrongHops 33 = .ok (.invokevirtual 124, 3) := by decide +kernel
theorem dX6_wrongHops_36 : decode cX6_wrongHops 36 = .ok (.istore 4, 2) := by decide +kernel
theorem dX6_wrongHops_38 : decode cX6_wrongHops 38 = .ok (.iload 4, 2) := by decide +kernel
theorem dX6_wrongHops_40 : decode cX6_wrongHops 40 = .ok (.iconst (-1), 1) := by decide +kernel
theorem dX6_wrongHops_41 : decode cX6_wrongHops 41 = .ok (.if_icmp .eq 17, 3) := by decide +kernel
theorem dX6_wrongHops_44 : decode cX6_wrongHops 44 = .ok (.aload_n 0, 1) := by decide +kernel
theorem dX6_wrongHops_45 : decode cX6_wrongHops 45 = .ok (.iload 4, 2) := by decide +kernel
theorem dX6_wrongHops_47 : decode cX6_wrongHops 47 = .ok (.invokevirtual 94, 3) := by decide +kernel
theorem dX6_wrongHops_50 : decode cX6_wrongHops 50 = .ok (.iload_n 2, 1) := by decide +kernel
theorem dX6_wrongHops_51 : decode cX6_wrongHops 51 = .ok (.if_icmp .ne 7, 3) := by decide +kernel
theorem dX6_wrongHops_54 : decode cX6_wrongHops 54 = .ok (.iconst 1, 1) := by decide +kernel
theorem dX6_wrongHops_55 : decode cX6_wrongHops 55 = .ok (.goto 4, 3) := by decide +kernel
theorem dX6_wrongHops_58 : decode cX6_wrongHops 58 = .ok (.iconst 0, 1) := by decide +kernel
theorem dX6_wrongHops_59 : decode cX6_wrongHops 59 = .ok (.istore 5, 2) := by decide +kernel
theorem dX6_wrongHops_61 : decode cX6_wrongHops 61 = .ok (.aload_n 0, 1) := by decide +kernel
theorem dX6_wrongHops_62 : decode cX6_wrongHops 62 = .ok (.iload_n 2, 1) := by decide +kernel
theorem dX6_wrongHops_63 : decode cX6_wrongHops 63 = .ok (.invokevirtual 115, 3) := by decide +kernel
theorem dX6_wrongHops_66 : decode cX6_wrongHops 66 = .ok (.iload_n 3, 1) := by decide +kernel
theorem dX6_wrongHops_67 : decode cX6_wrongHops 67 = .ok (.ishr, 1) := by decide +kernel
theorem dX6_wrongHops_68 : decode cX6_wrongHops 68 = .ok (.iconst 1, 1) := by decide +kernel
theorem dX6_wrongHops_69 : decode cX6_wrongHops 69 = .ok (.iand, 1) := by decide +kernel
theorem dX6_wrongHops_70 : decode cX6_wrongHops 70 = .ok (.ifCond .eq 7, 3) := by decide +kernel
theorem dX6_wrongHops_73 : decode cX6_wrongHops 73 = .ok (.iconst 1, 1) := by decide +kernel
theorem dX6_wrongHops_74 : decode cX6_wrongHops 74 = .ok (.goto 4, 3) := by decide +kernel
theorem dX6_wrongHops_77 : decode cX6_wrongHops 77 = .ok (.iconst 0, 1) := by decide +kernel
theorem dX6_wrongHops_78 : decode cX6_wrongHops 78 = .ok (.istore 6, 2) := by decide +kernel
theorem dX6_wrongHops_80 : decode cX6_wrongHops 80 = .ok (.iload 5, 2) := by decide +kernel
theorem dX6_wrongHops_82 : decode cX6_wrongHops 82 = .ok (.iload 6, 2) := by decide +kernel
theorem dX6_wrongHops_84 : decode cX6_wrongHops 84 = .ok (.if_icmp .eq 6, 3) := by decide +kernel
theorem dX6_wrongHops_87 : decode cX6_wrongHops 87 = .ok (.iinc 1 1, 3) := by decide +kernel
theorem dX6_wrongHops_90 : decode cX6_wrongHops 90 = .ok (.iinc 3 1, 3) := by decide +kernel
theorem dX6_wrongHops_93 : decode cX6_wrongHops 93 = .ok (.goto (-79), 3) := by decide +kernel
theorem dX6_wrongHops_96 : decode cX6_wrongHops 96 = .ok (.iload_n 1, 1) := by decide +kernel
theorem dX6_wrongHops_97 : decode cX6_wrongHops 97 = .ok (.aload_n 0, 1) := by decide +kernel
theorem dX6_wrongHops_98 : decode cX6_wrongHops 98 = .ok (.iload_n 2, 1) := by decide +kernel
theorem dX6_wrongHops_99 : decode cX6_wrongHops 99 = .ok (.invokevirtual 115, 3) := by decide +kernel
theorem dX6_wrongHops_102 : decode cX6_wrongHops 102 = .ok (.aload_n 0, 1) := by decide +kernel
theorem dX6_wrongHops_103 : decode cX6_wrongHops 103 = .ok (.getfield 31, 3) := by decide +kernel
theorem dX6_wrongHops_106 : decode cX6_wrongHops 106 = .ok (.ishr, 1) := by decide +kernel
theorem dX6_wrongHops_107 : decode cX6_wrongHops 107 = .ok (.invokestatic 135, 3) := by decide +kernel
theorem dX6_wrongHops_110 : decode cX6_wrongHops 110 = .ok (.iadd, 1) := by decide +kernel
theorem dX6_wrongHops_111 : decode cX6_wrongHops 111 = .ok (.istore_n 1, 1) := by decide +kernel
theorem dX6_wrongHops_112 : decode cX6_wrongHops 112 = .ok (.iinc 2 1, 3) := by decide +kernel
theorem dX6_wrongHops_115 : decode cX6_wrongHops 115 = .ok (.goto (-111), 3) := by decide +kernel
theorem dX6_wrongHops_118 : decode cX6_wrongHops 118 = .ok (.iload_n 1, 1) := by decide +kernel
theorem dX6_wrongHops_119 : decode cX6_wrongHops 119 = .ok (.ireturn, 1) := by decide +kernel
theorem dX6_twins_0 : decode cX6_twins 0 = .ok (.iconst 0, 1) := by decide +kernel
theorem dX6_twins_1 : decode cX6_twins 1 = .ok (.istore_n 1, 1) := by decide +kernel
theorem dX6_twins_2 : decode cX6_twins 2 = .ok (.iconst 0, 1) := by decide +kernel
theorem dX6_twins_3 : decode cX6_twins 3 = .ok (.istore_n 2, 1) := by decide +kernel
theorem dX6_twins_4 : decode cX6_twins 4 = .ok (.iload_n 2, 1) := by decide +kernel
theorem dX6_twins_5 : decode cX6_twins 5 = .ok (.aload_n 0, 1) := by decide +kernel
theorem dX6_twins_6 : decode cX6_twins 6 = .ok (.getfield 64, 3) := by decide +kernel
theorem dX6_twins_9 : decode cX6_twins 9 = .ok (.if_icmp .ge 47, 3) := by decide +kernel
theorem dX6_twins_12 : decode cX6_twins 12 = .ok (.iconst 0, 1) := by decide +kernel
theorem dX6_twins_13 : decode cX6_twins 13 = .ok (.istore_n 3, 1) := by decide +kernel
theorem dX6_twins_14 : decode cX6_twins 14 = .ok (.iload_n 3, 1) := by decide +kernel
theorem dX6_twins_15 : decode cX6_twins 15 = .ok (.iload_n 2, 1) := by decide +kernel
theorem dX6_twins_16 : decode cX6_twins 16 = .ok (.if_icmp .ge 34, 3) := by decide +kernel
theorem dX6_twins_19 : decode cX6_twins 19 = .ok (.aload_n 0, 1) := by decide +kernel
theorem dX6_twins_20 : decode cX6_twins 20 = .ok (.iload_n 2, 1) := by decide +kernel
theorem dX6_twins_21 : decode cX6_twins 21 = .ok (.invokevirtual 124, 3) := by decide +kernel
theorem dX6_twins_24 : decode cX6_twins 24 = .ok (.iconst (-1), 1) := by decide +kernel
theorem dX6_twins_25 : decode cX6_twins 25 = .ok (.if_icmp .eq 19, 3) := by decide +kernel
theorem dX6_twins_28 : decode cX6_twins 28 = .ok (.aload_n 0, 1) := by decide +kernel
theorem dX6_twins_29 : decode cX6_twins 29 = .ok (.iload_n 2, 1) := by decide +kernel
theorem dX6_twins_30 : decode cX6_twins 30 = .ok (.invokevirtual 124, 3) := by decide +kernel
theorem dX6_twins_33 : decode cX6_twins 33 = .ok (.aload_n 0, 1) := by decide +kernel
theorem dX6_twins_34 : decode cX6_twins 34 = .ok (.iload_n 3, 1) := by decide +kernel
theorem dX6_twins_35 : decode cX6_twins 35 = .ok (.invokevirtual 124, 3) := by decide +kernel
theorem dX6_twins_38 : decode cX6_twins 38 = .ok (.if_icmp .ne 6, 3) := by decide +kernel
theorem dX6_twins_41 : decode cX6_twins 41 = .ok (.iinc 1 1, 3) := by decide +kernel
theorem dX6_twins_44 : decode cX6_twins 44 = .ok (.iinc 3 1, 3) := by decide +kernel
theorem dX6_twins_47 : decode cX6_twins 47 = .ok (.goto (-33), 3) := by decide +kernel
theorem dX6_twins_50 : decode cX6_twins 50 = .ok (.iinc 2 1, 3) := by decide +kernel
theorem dX6_twins_53 : decode cX6_twins 53 = .ok (.goto (-49), 3) := by decide +kernel
theorem dX6_twins_56 : decode cX6_twins 56 = .ok (.iload_n 1, 1) := by decide +kernel
theorem dX6_twins_57 : decode cX6_twins 57 = .ok (.ireturn, 1) := by decide +kernel
theorem dX7_init_0 : decode cX7_init 0 = .ok (.aload_n 0, 1) := by decide +kernel
theorem dX7_init_1 : decode cX7_init 1 = .ok (.invokespecial 1, 3) := by decide +kernel
theorem dX7_init_4 : decode cX7_init 4 = .ok (.aload_n 0, 1) := by decide +kernel
theorem dX7_init_5 : decode cX7_init 5 = .ok (.new 7, 3) := by decide +kernel
theorem dX7_init_8 : decode cX7_init 8 = .ok (.dup, 1) := by decide +kernel
theorem dX7_init_9 : decode cX7_init 9 = .ok (.invokespecial 9, 3) := by decide +kernel
theorem dX7_init_12 : decode cX7_init 12 = .ok (.putfield 10, 3) := by decide +kernel
theorem dX7_init_15 : decode cX7_init 15 = .ok (.aload_n 0, 1) := by decide +kernel
theorem dX7_init_16 : decode cX7_init 16 = .ok (.new 16, 3) := by decide +kernel
theorem dX7_init_19 : decode cX7_init 19 = .ok (.dup, 1) := by decide +kernel
theorem dX7_init_20 : decode cX7_init 20 = .ok (.aload_n 0, 1) := by decide +kernel
theorem dX7_init_21 : decode cX7_init 21 = .ok (.getfield 10, 3) := by decide +kernel
theorem dX7_init_24 : decode cX7_init 24 = .ok (.invokespecial 18, 3) := by decide +kernel
theorem dX7_init_27 : decode cX7_init 27 = .ok (.putfield 21, 3) := by decide +kernel
theorem dX7_init_30 : decode cX7_init 30 = .ok (.aload_n 0, 1) := by decide +kernel
theorem dX7_init_31 : decode cX7_init 31 = .ok (.new 25, 3) := by decide +kernel
theorem dX7_init_34 : decode cX7_init 34 = .ok (.dup, 1) := by decide +kernel
theorem dX7_init_35 : decode cX7_init 35 = .ok (.invokespecial 27, 3) := by decide +kernel
theorem dX7_init_38 : decode cX7_init 38 = .ok (.putfield 28, 3) := by decide +kernel
theorem dX7_init_41 : decode cX7_init 41 = .ok (.aload_n 0, 1) := by decide +kernel
theorem dX7_init_42 : decode cX7_init 42 = .ok (.new 25, 3) := by decide +kernel
theorem dX7_init_45 : decode cX7_init 45 = .ok (.dup, 1) := by decide +kernel
theorem dX7_init_46 : decode cX7_init 46 = .ok (.invokespecial 27, 3) := by decide +kernel
theorem dX7_init_49 : decode cX7_init 49 = .ok (.putfield 32, 3) := by decide +kernel
theorem dX7_init_52 : decode cX7_init 52 = .ok (.aload_n 0, 1) := by decide +kernel
theorem dX7_init_53 : decode cX7_init 53 = .ok (.new 25, 3) := by decide +kernel
theorem dX7_init_56 : decode cX7_init 56 = .ok (.dup, 1) := by decide +kernel
theorem dX7_init_57 : decode cX7_init 57 = .ok (.invokespecial 27, 3) := by decide +kernel
theorem dX7_init_60 : decode cX7_init 60 = .ok (.putfield 35, 3) := by decide +kernel
theorem dX7_init_63 : decode cX7_init 63 = .ok (.aload_n 0, 1) := by decide +kernel
theorem dX7_init_64 : decode cX7_init 64 = .ok (.iconst 0, 1) := by decide +kernel
theorem dX7_init_65 : decode cX7_init 65 = .ok (.putfield 38, 3) := by decide +kernel
theorem dX7_init_68 : decode cX7_init 68 = .ok (.aload_n 0, 1) := by decide +kernel
theorem dX7_init_69 : decode cX7_init 69 = .ok (.new 42, 3) := by decide +kernel
theorem dX7_init_72 : decode cX7_init 72 = .ok (.dup, 1) := by decide +kernel
theorem dX7_init_73 : decode cX7_init 73 = .ok (.invokespecial 44, 3) := by decide +kernel
theorem dX7_init_76 : decode cX7_init 76 = .ok (.putfield 45, 3) := by decide +kernel
theorem dX7_init_79 : decode cX7_init 79 = .ok (.aload_n 0, 1) := by decide +kernel
theorem dX7_init_80 : decode cX7_init 80 = .ok (.new 49, 3) := by decide +kernel
theorem dX7_init_83 : decode cX7_init 83 = .ok (.dup, 1) := by decide +kernel
theorem dX7_init_84 : decode cX7_init 84 = .ok (.invokespecial 51, 3) := by decide +kernel
theorem dX7_init_87 : decode cX7_init 87 = .ok (.putfield 52, 3) := by decide +kernel
theorem dX7_init_90 : decode cX7_init 90 = .ok (.aload_n 0, 1) := by decide +kernel
theorem dX7_init_91 : decode cX7_init 91 = .ok (.getfield 28, 3) := by decide +kernel
theorem dX7_init_94 : decode cX7_init 94 = .ok (.bipush 8, 2) := by decide +kernel
theorem dX7_init_96 : decode cX7_init 96 = .ok (.iconst 3, 1) := by decide +kernel
theorem dX7_init_97 : decode cX7_init 97 = .ok (.iconst 1, 1) := by decide +kernel
theorem dX7_init_98 : decode cX7_init 98 = .ok (.invokevirtual 56, 3) := by decide +kernel
theorem dX7_init_101 : decode cX7_init 101 = .ok (.aload_n 0, 1) := by decide +kernel
theorem dX7_init_102 : decode cX7_init 102 = .ok (.getfield 28, 3) := by decide +kernel
theorem dX7_init_105 : decode cX7_init 105 = .ok (.iconst 1, 1) := by decide +kernel
theorem dX7_init_106 : decode cX7_init 106 = .ok (.bipush 10, 2) := by decide +kernel
theorem dX7_init_108 : decode cX7_init 108 = .ok (.invokevirtual 60, 3) := by decide +kernel
theorem dX7_init_111 : decode cX7_init 111 = .ok (.pop, 1) := by decide +kernel
theorem dX7_init_112 : decode cX7_init 112 = .ok (.aload_n 0, 1) := by decide +kernel
theorem dX7_init_113 : decode cX7_init 113 = .ok (.getfield 28, 3) := by decide +kernel
theorem dX7_init_116 : decode cX7_init 116 = .ok (.bipush 9, 2) := by decide +kernel
theorem dX7_init_118 : decode cX7_init 118 = .ok (.bipush 11, 2) := by decide +kernel
theorem dX7_init_120 : decode cX7_init 120 = .ok (.invokevirtual 60, 3) := by decide +kernel
theorem dX7_init_123 : decode cX7_init 123 = .ok (.pop, 1) := by decide +kernel
theorem dX7_init_124 : decode cX7_init 124 = .ok (.aload_n 0, 1) := by decide +kernel
theorem dX7_init_125 : decode cX7_init 125 = .ok (.getfield 28, 3) := by decide +kernel
theorem dX7_init_128 : decode cX7_init 128 = .ok (.iconst 3, 1) := by decide +kernel
theorem dX7_init_129 : decode cX7_init 129 = .ok (.bipush 12, 2) := by decide +kernel
theorem dX7_init_131 : decode cX7_init 131 = .ok (.invokevirtual 60, 3) := by decide +kernel
theorem dX7_init_134 : decode cX7_init 134 = .ok (.pop, 1) := by decide +kernel
theorem dX7_init_135 : decode cX7_init 135 = .ok (.aload_n 0, 1) := by decide +kernel
theorem dX7_init_136 : decode cX7_init 136 = .ok (.getfield 28, 3) := by decide +kernel
theorem dX7_init_139 : decode cX7_init 139 = .ok (.bipush 17, 2) := by decide +kernel
theorem dX7_init_141 : decode cX7_init 141 = .ok (.bipush 13, 2) := by decide +kernel
theorem dX7_init_143 : decode cX7_init 143 = .ok (.invokevirtual 60, 3) := by decide +kernel
theorem dX7_init_146 : decode cX7_init 146 = .ok (.pop, 1) := by decide +kernel
theorem dX7_init_147 : decode cX7_init 147 = .ok (.aload_n 0, 1) := by decide +kernel
theorem dX7_init_148 : decode cX7_init 148 = .ok (.getfield 28, 3) := by decide +kernel
theorem dX7_init_151 : decode cX7_init 151 = .ok (.iconst 4, 1) := by decide +kernel
theorem dX7_init_152 : decode cX7_init 152 = .ok (.bipush 14, 2) := by decide +kernel
theorem dX7_init_154 : decode cX7_init 154 = .ok (.invokevirtual 60, 3) := by decide +kernel
theorem dX7_init_157 : decode cX7_init 157 = .ok (.pop, 1) := by decide +kernel
theorem dX7_init_158 : decode cX7_init 158 = .ok (.aload_n 0, 1) := by decide +kernel
theorem dX7_init_159 : decode cX7_init 159 = .ok (.getfield 28, 3) := by decide +kernel
theorem dX7_init_162 : decode cX7_init 162 = .ok (.iconst 1, 1) := by decide +kernel
theorem dX7_init_163 : decode cX7_init 163 = .ok (.putfield 64, 3) := by decide +kernel
theorem dX7_init_166 : decode cX7_init 166 = .ok (.aload_n 0, 1) := by decide +kernel
theorem dX7_init_167 : decode cX7_init 167 = .ok (.getfield 28, 3) := by decide +kernel
theorem dX7_init_170 : decode cX7_init 170 = .ok (.bipush 9, 2) := by decide +kernel
theorem dX7_init_172 : decode cX7_init 172 = .ok (.invokevirtual 67, 3) := by decide +kernel
theorem dX7_init_175 : decode cX7_init 175 = .ok (.pop, 1) := by decide +kernel
theorem dX7_init_176 : decode cX7_init 176 = .ok (.aload_n 0, 1) := by decide +kernel
theorem dX7_init_177 : decode cX7_init 177 = .ok (.getfield 28, 3) := by decide +kernel
theorem dX7_init_180 : decode cX7_init 180 = .ok (.bipush 12, 2) := by decide +kernel
theorem dX7_init_182 : decode cX7_init 182 = .ok (.bipush 15, 2) := by decide +kernel
theorem dX7_init_184 : decode cX7_init 184 = .ok (.invokevirtual 60, 3) := by decide +kernel
theorem dX7_init_187 : decode cX7_init 187 = .ok (.pop, 1) := by decide +kernel
theorem dX7_init_188 : decode cX7_init 188 = .ok (.return_, 1) := by decide +kernel
theorem dX7_add_0 : decode cX7_add 0 = .ok (.iload_n 1, 1) := by decide +kernel
theorem dX7_add_1 : decode cX7_add 1 = .ok (.invokestatic 118, 3) := by decide +kernel
theorem dX7_add_4 : decode cX7_add 4 = .ok (.iload_n 2, 1) := by decide +kernel
theorem dX7_add_5 : decode cX7_add 5 = .ok (.invokestatic 121, 3) := by decide +kernel
theorem dX7_add_8 : decode cX7_add 8 = .ok (.aload_n 0, 1) := by decide +kernel
theorem dX7_add_9 : decode cX7_add 9 = .ok (.getfield 28, 3) := by decide +kernel
theorem dX7_add_12 : decode cX7_add 12 = .ok (.iload_n 1, 1) := by decide +kernel
theorem dX7_add_13 : decode cX7_add 13 = .ok (.invokevirtual 124, 3) := by decide +kernel
theorem dX7_add_16 : decode cX7_add 16 = .ok (.iconst (-1), 1) := by decide +kernel
theorem dX7_add_17 : decode cX7_add 17 = .ok (.if_icmp .eq 13, 3) := by decide +kernel
theorem dX7_add_20 : decode cX7_add 20 = .ok (.new 127, 3) := by decide +kernel
theorem dX7_add_23 : decode cX7_add 23 = .ok (.dup, 1) := by decide +kernel
theorem dX7_add_24 : decode cX7_add 24 = .ok (.ldc 129, 2) := by decide +kernel
theorem dX7_add_26 : decode cX7_add 26 = .ok (.invokespecial 131, 3) := by decide +kernel
theorem dX7_add_29 : decode cX7_add 29 = .ok (.athrow, 1) := by decide +kernel
theorem dX7_add_30 : decode cX7_add 30 = .ok (.aload_n 0, 1) := by decide +kernel
theorem dX7_add_31 : decode cX7_add 31 = .ok (.getfield 45, 3) := by decide +kernel
theorem dX7_add_34 : decode cX7_add 34 = .ok (.aload_n 0, 1) := by decide +kernel
theorem dX7_add_35 : decode cX7_add 35 = .ok (.getfield 28, 3) := by decide +kernel
theorem dX7_add_38 : decode cX7_add 38 = .ok (.invokevirtual 102, 3) := by decide +kernel
theorem dX7_add_41 : decode cX7_add 41 = .ok (.aload_n 0, 1) := by decide +kernel
theorem dX7_add_42 : decode cX7_add 42 = .ok (.getfield 28, 3) := by decide +kernel
theorem dX7_add_45 : decode cX7_add 45 = .ok (.iload_n 1, 1) := by decide +kernel
theorem dX7_add_46 : decode cX7_add 46 = .ok (.iload_n 2, 1) := by decide +kernel
theorem dX7_add_47 : decode cX7_add 47 = .ok (.invokevirtual 60, 3) := by decide +kernel
theorem dX7_add_50 : decode cX7_add 50 = .ok (.istore_n 3, 1) := by decide +kernel
theorem dX7_add_51 : decode cX7_add 51 = .ok (.iload_n 3, 1) := by decide +kernel
theorem dX7_add_52 : decode cX7_add 52 = .ok (.iconst (-1), 1) := by decide +kernel
theorem dX7_add_53 : decode cX7_add 53 = .ok (.if_icmp .ne 24, 3) := by decide +kernel
theorem dX7_add_56 : decode cX7_add 56 = .ok (.aload_n 0, 1) := by decide +kernel
theorem dX7_add_57 : decode cX7_add 57 = .ok (.getfield 45, 3) := by decide +kernel
theorem dX7_add_60 : decode cX7_add 60 = .ok (.aload_n 0, 1) := by decide +kernel
theorem dX7_add_61 : decode cX7_add 61 = .ok (.getfield 28, 3) := by decide +kernel
theorem dX7_add_64 : decode cX7_add 64 = .ok (.invokevirtual 132, 3) := by decide +kernel
theorem dX7_add_67 : decode cX7_add 67 = .ok (.new 127, 3) := by decide +kernel
theorem dX7_add_70 : decode cX7_add 70 = .ok (.dup, 1) := by decide +kernel
theorem dX7_add_71 : decode cX7_add 71 = .ok (.ldc 135, 2) := by decide +kernel
theorem dX7_add_73 : decode cX7_add 73 = .ok (.invokespecial 131, 3) := by decide +kernel
theorem dX7_add_76 : decode cX7_add 76 = .ok (.athrow, 1) := by decide +kernel
theorem dX7_add_77 : decode cX7_add 77 = .ok (.aload_n 0, 1) := by decide +kernel
theorem dX7_add_78 : decode cX7_add 78 = .ok (.getfield 45, 3) := by decide +kernel
theorem dX7_add_81 : decode cX7_add 81 = .ok (.invokevirtual 112, 3) := by decide +kernel
theorem dX7_add_84 : decode cX7_add 84 = .ok (.iload_n 3, 1) := by decide +kernel
theorem dX7_add_85 : decode cX7_add 85 = .ok (.ireturn, 1) := by decide +kernel
theorem dX7_put_0 : decode cX7_put 0 = .ok (.iload_n 1, 1) := by decide +kernel
theorem dX7_put_1 : decode cX7_put 1 = .ok (.invokestatic 118, 3) := by decide +kernel
theorem dX7_put_4 : decode cX7_put 4 = .ok (.iload_n 2, 1) := by decide +kernel
theorem dX7_put_5 : decode cX7_put 5 = .ok (.invokestatic 121, 3) := by decide +kernel
theorem dX7_put_8 : decode cX7_put 8 = .ok (.aload_n 0, 1) := by decide +kernel
theorem dX7_put_9 : decode cX7_put 9 = .ok (.getfield 28, 3) := by decide +kernel
theorem dX7_put_12 : decode cX7_put 12 = .ok (.aload_n 0, 1) := by decide +kernel
theorem dX7_put_13 : decode cX7_put 13 = .ok (.getfield 28, 3) := by decide +kernel
theorem dX7_put_16 : decode cX7_put 16 = .ok (.iload_n 1, 1) := by decide +kernel
theorem dX7_put_17 : decode cX7_put 17 = .ok (.invokevirtual 124, 3) := by decide +kernel
theorem dX7_put_20 : decode cX7_put 20 = .ok (.invokevirtual 137, 3) := by decide +kernel
theorem dX7_put_23 : decode cX7_put 23 = .ok (.istore_n 3, 1) := by decide +kernel
theorem dX7_put_24 : decode cX7_put 24 = .ok (.aload_n 0, 1) := by decide +kernel
theorem dX7_put_25 : decode cX7_put 25 = .ok (.getfield 45, 3) := by decide +kernel
theorem dX7_put_28 : decode cX7_put 28 = .ok (.aload_n 0, 1) := by decide +kernel
theorem dX7_put_29 : decode cX7_put 29 = .ok (.getfield 28, 3) := by decide +kernel
theorem dX7_put_32 : decode cX7_put 32 = .ok (.invokevirtual 102, 3) := by decide +kernel
theorem dX7_put_35 : decode cX7_put 35 = .ok (.aload_n 0, 1) := by decide +kernel
theorem dX7_put_36 : decode cX7_put 36 = .ok (.getfield 28, 3) := by decide +kernel
theorem dX7_put_39 : decode cX7_put 39 = .ok (.iload_n 1, 1) := by decide +kernel
theorem dX7_put_40 : decode cX7_put 40 = .ok (.iload_n 2, 1) := by decide +kernel
theorem dX7_put_41 : decode cX7_put 41 = .ok (.invokevirtual 140, 3) := by decide +kernel
theorem dX7_put_44 : decode cX7_put 44 = .ok (.ifCond .ne 24, 3) := by decide +kernel
theorem dX7_put_47 : decode cX7_put 47 = .ok (.aload_n 0, 1) := by decide +kernel
theorem dX7_put_48 : decode cX7_put 48 = .ok (.getfield 45, 3) := by decide +kernel
theorem dX7_put_51 : decode cX7_put 51 = .ok (.aload_n 0, 1) := by decide +kernel
theorem dX7_put_52 : decode cX7_put 52 = .ok (.getfield 28, 3) := by decide +kernel
theorem dX7_put_55 : decode cX7_put 55 = .ok (.invokevirtual 132, 3) := by decide +kernel
theorem dX7_put_58 : decode cX7_put 58 = .ok (.new 127, 3) := by decide +kernel
theorem dX7_put_61 : decode cX7_put 61 = .ok (.dup, 1) := by decide +kernel
theorem dX7_put_62 : decode cX7_put 62 = .ok (.ldc 135, 2) := by decide +kernel
theorem dX7_put_64 : decode cX7_put 64 = .ok (.invokespecial 131, 3) := by decide +kernel
theorem dX7_put_67 : decode cX7_put 67 = .ok (.athrow, 1) := by decide +kernel
theorem dX7_put_68 : decode cX7_put 68 = .ok (.aload_n 0, 1) := by decide +kernel
theorem dX7_put_69 : decode cX7_put 69 = .ok (.getfield 45, 3) := by decide +kernel
theorem dX7_put_72 : decode cX7_put 72 = .ok (.invokevirtual 112, 3) := by decide +kernel
theorem dX7_put_75 : decode cX7_put 75 = .ok (.iload_n 3, 1) := by decide +kernel
theorem dX7_put_76 : decode cX7_put 76 = .ok (.ireturn, 1) := by decide +kernel
theorem dX7_remove_0 : decode cX7_remove 0 = .ok (.iload_n 1, 1) := by decide +kernel
theorem dX7_remove_1 : decode cX7_remove 1 = .ok (.invokestatic 144, 3) := by decide +kernel
theorem dX7_remove_4 : decode cX7_remove 4 = .ok (.ifCond .eq 15, 3) := by decide +kernel
theorem dX7_remove_7 : decode cX7_remove 7 = .ok (.aload_n 0, 1) := by decide +kernel
theorem dX7_remove_8 : decode cX7_remove 8 = .ok (.getfield 28, 3) := by decide +kernel
theorem dX7_remove_11 : decode cX7_remove 11 = .ok (.iload_n 1, 1) := by decide +kernel
theorem dX7_remove_12 : decode cX7_remove 12 = .ok (.invokevirtual 124, 3) := by decide +kernel
theorem dX7_remove_15 : decode cX7_remove 15 = .ok (.iconst (-1), 1) := by decide +kernel
theorem dX7_remove_16 : decode cX7_remove 16 = .ok (.if_icmp .ne 13, 3) := by decide +kernel
theorem dX7_remove_19 : decode cX7_remove 19 = .ok (.new 163, 3) := by decide +kernel
theorem dX7_remove_22 : decode cX7_remove 22 = .ok (.dup, 1) := by decide +kernel
theorem dX7_remove_23 : decode cX7_remove 23 = .ok (.ldc 165, 2) := by decide +kernel
theorem dX7_remove_25 : decode cX7_remove 25 = .ok (.invokespecial 167, 3) := by decide +kernel
theorem dX7_remove_28 : decode cX7_remove 28 = .ok (.athrow, 1) := by decide +kernel
theorem dX7_remove_29 : decode cX7_remove 29 = .ok (.aload_n 0, 1) := by decide +kernel
theorem dX7_remove_30 : decode cX7_remove 30 = .ok (.getfield 45, 3) := by decide +kernel
theorem dX7_remove_33 : decode cX7_remove 33 = .ok (.aload_n 0, 1) := by decide +kernel
theorem dX7_remove_34 : decode cX7_remove 34 = .ok (.getfield 28, 3) := by decide +kernel
theorem dX7_remove_37 : decode cX7_remove 37 = .ok (.invokevirtual 102, 3) := by decide +kernel
theorem dX7_remove_40 : decode cX7_remove 40 = .ok (.aload_n 0, 1) := by decide +kernel
theorem dX7_remove_41 : decode cX7_remove 41 = .ok (.getfield 28, 3) := by decide +kernel
theorem dX7_remove_44 : decode cX7_remove 44 = .ok (.iload_n 1, 1) := by decide +kernel
theorem dX7_remove_45 : decode cX7_remove 45 = .ok (.invokevirtual 67, 3) := by decide +kernel
theorem dX7_remove_48 : decode cX7_remove 48 = .ok (.istore_n 2, 1) := by decide +kernel
theorem dX7_remove_49 : decode cX7_remove 49 = .ok (.aload_n 0, 1) := by decide +kernel
theorem dX7_remove_50 : decode cX7_remove 50 = .ok (.getfield 45, 3) := by decide +kernel
theorem dX7_remove_53 : decode cX7_remove 53 = .ok (.invokevirtual 112, 3) := by decide +kernel
theorem dX7_remove_56 : decode cX7_remove 56 = .ok (.iload_n 2, 1) := by decide +kernel
theorem dX7_remove_57 : decode cX7_remove 57 = .ok (.ireturn, 1) := by decide +kernel
theorem dX7_setNeighbourhood_0 : decode cX7_setNeighbourhood 0 = .ok (.iload_n 1, 1) := by decide +kernel
theorem dX7_setNeighbourhood_1 : decode cX7_setNeighbourhood 1 = .ok (.invokestatic 168, 3) := by decide +kernel
theorem dX7_setNeighbourhood_4 : decode cX7_setNeighbourhood 4 = .ok (.ifCond .ne 13, 3) := by decide +kernel
theorem dX7_setNeighbourhood_7 : decode cX7_setNeighbourhood 7 = .ok (.new 79, 3) := by decide +kernel
theorem dX7_setNeighbourhood_10 : decode cX7_setNeighbourhood 10 = .ok (.dup, 1) := by decide +kernel
theorem dX7_setNeighbourhood_11 : decode cX7_setNeighbourhood 11 = .ok (.ldc 171, 2) := by decide +kernel
theorem dX7_setNeighbourhood_13 : decode cX7_setNeighbourhood 13 = .ok (.invokespecial 83, 3) := by decide +kernel
theorem dX7_setNeighbourhood_16 : decode cX7_setNeighbourhood 16 = .ok (.athrow, 1) := by decide +kernel
theorem dX7_setNeighbourhood_17 : decode cX7_setNeighbourhood 17 = .ok (.aload_n 0, 1) := by decide +kernel
theorem dX7_setNeighbourhood_18 : decode cX7_setNeighbourhood 18 = .ok (.getfield 45, 3) := by decide +kernel
theorem dX7_setNeighbourhood_21 : decode cX7_setNeighbourhood 21 = .ok (.aload_n 0, 1) := by decide +kernel
theorem dX7_setNeighbourhood_22 : decode cX7_setNeighbourhood 22 = .ok (.getfield 28, 3) := by decide +kernel
theorem dX7_setNeighbourhood_25 : decode cX7_setNeighbourhood 25 = .ok (.invokevirtual 102, 3) := by decide +kernel
theorem dX7_setNeighbourhood_28 : decode cX7_setNeighbourhood 28 = .ok (.aload_n 0, 1) := by decide +kernel
theorem dX7_setNeighbourhood_29 : decode cX7_setNeighbourhood 29 = .ok (.getfield 28, 3) := by decide +kernel
theorem dX7_setNeighbourhood_32 : decode cX7_setNeighbourhood 32 = .ok (.iload_n 1, 1) := by decide +kernel
theorem dX7_setNeighbourhood_33 : decode cX7_setNeighbourhood 33 = .ok (.invokevirtual 173, 3) := by decide +kernel
theorem dX7_setNeighbourhood_36 : decode cX7_setNeighbourhood 36 = .ok (.ifCond .ne 24, 3) := by decide +kernel
theorem dX7_setNeighbourhood_39 : decode cX7_setNeighbourhood 39 = .ok (.aload_n 0, 1) := by decide +kernel
theorem dX7_setNeighbourhood_40 : decode cX7_setNeighbourhood 40 = .ok (.getfield 45, 3) := by decide +kernel
theorem dX7_setNeighbourhood_43 : decode cX7_setNeighbourhood 43 = .ok (.aload_n 0, 1) := by decide +kernel
theorem dX7_setNeighbourhood_44 : decode cX7_setNeighbourhood 44 = .ok (.getfield 28, 3) := by decide +kernel
theorem dX7_setNeighbourhood_47 : decode cX7_setNeighbourhood 47 = .ok (.invokevirtual 132, 3) := by decide +kernel
theorem dX7_setNeighbourhood_50 : decode cX7_setNeighbourhood 50 = .ok (.new 127, 3) := by decide +kernel
theorem dX7_setNeighbourhood_53 : decode cX7_setNeighbourhood 53 = .ok (.dup, 1) := by decide +kernel
theorem dX7_setNeighbourhood_54 : decode cX7_setNeighbourhood 54 = .ok (.ldc 176, 2) := by decide +kernel
theorem dX7_setNeighbourhood_56 : decode cX7_setNeighbourhood 56 = .ok (.invokespecial 131, 3) := by decide +kernel
theorem dX7_setNeighbourhood_59 : decode cX7_setNeighbourhood 59 = .ok (.athrow, 1) := by decide +kernel
theorem dX7_setNeighbourhood_60 : decode cX7_setNeighbourhood 60 = .ok (.aload_n 0, 1) := by decide +kernel
theorem dX7_setNeighbourhood_61 : decode cX7_setNeighbourhood 61 = .ok (.getfield 45, 3) := by decide +kernel
theorem dX7_setNeighbourhood_64 : decode cX7_setNeighbourhood 64 = .ok (.invokevirtual 112, 3) := by decide +kernel
theorem dX7_setNeighbourhood_67 : decode cX7_setNeighbourhood 67 = .ok (.aload_n 0, 1) := by decide +kernel
theorem dX7_setNeighbourhood_68 : decode cX7_setNeighbourhood 68 = .ok (.getfield 28, 3) := by decide +kernel
theorem dX7_setNeighbourhood_71 : decode cX7_setNeighbourhood 71 = .ok (.getfield 178, 3) := by decide +kernel
theorem dX7_setNeighbourhood_74 : decode cX7_setNeighbourhood 74 = .ok (.ireturn, 1) := by decide +kernel
theorem dX7_setMultiplier_0 : decode cX7_setMultiplier 0 = .ok (.iload_n 1, 1) := by decide +kernel
theorem dX7_setMultiplier_1 : decode cX7_setMultiplier 1 = .ok (.invokestatic 181, 3) := by decide +kernel
theorem dX7_setMultiplier_4 : decode cX7_setMultiplier 4 = .ok (.ifCond .ne 13, 3) := by decide +kernel
theorem dX7_setMultiplier_7 : decode cX7_setMultiplier 7 = .ok (.new 79, 3) := by decide +kernel
theorem dX7_setMultiplier_10 : decode cX7_setMultiplier 10 = .ok (.dup, 1) := by decide +kernel
theorem dX7_setMultiplier_11 : decode cX7_setMultiplier 11 = .ok (.ldc 184, 2) := by decide +kernel
theorem dX7_setMultiplier_13 : decode cX7_setMultiplier 13 = .ok (.invokespecial 83, 3) := by decide +kernel
theorem dX7_setMultiplier_16 : decode cX7_setMultiplier 16 = .ok (.athrow, 1) := by decide +kernel
theorem dX7_setMultiplier_17 : decode cX7_setMultiplier 17 = .ok (.aload_n 0, 1) := by decide +kernel
theorem dX7_setMultiplier_18 : decode cX7_setMultiplier 18 = .ok (.getfield 45, 3) := by decide +kernel
theorem dX7_setMultiplier_21 : decode cX7_setMultiplier 21 = .ok (.aload_n 0, 1) := by decide +kernel
theorem dX7_setMultiplier_22 : decode cX7_setMultiplier 22 = .ok (.getfield 28, 3) := by decide +kernel
theorem dX7_setMultiplier_25 : decode cX7_setMultiplier 25 = .ok (.invokevirtual 102, 3) := by decide +kernel
theorem dX7_setMultiplier_28 : decode cX7_setMultiplier 28 = .ok (.aload_n 0, 1) := by decide +kernel
theorem dX7_setMultiplier_29 : decode cX7_setMultiplier 29 = .ok (.getfield 28, 3) := by decide +kernel
theorem dX7_setMultiplier_32 : decode cX7_setMultiplier 32 = .ok (.iload_n 1, 1) := by decide +kernel
theorem dX7_setMultiplier_33 : decode cX7_setMultiplier 33 = .ok (.invokevirtual 186, 3) := by decide +kernel
theorem dX7_setMultiplier_36 : decode cX7_setMultiplier 36 = .ok (.ifCond .ne 24, 3) := by decide +kernel
theorem dX7_setMultiplier_39 : decode cX7_setMultiplier 39 = .ok (.aload_n 0, 1) := by decide +kernel
theorem dX7_setMultiplier_40 : decode cX7_setMultiplier 40 = .ok (.getfield 45, 3) := by decide +kernel
theorem dX7_setMultiplier_43 : decode cX7_setMultiplier 43 = .ok (.aload_n 0, 1) := by decide +kernel
theorem dX7_setMultiplier_44 : decode cX7_setMultiplier 44 = .ok (.getfield 28, 3) := by decide +kernel
theorem dX7_setMultiplier_47 : decode cX7_setMultiplier 47 = .ok (.invokevirtual 132, 3) := by decide +kernel
theorem dX7_setMultiplier_50 : decode cX7_setMultiplier 50 = .ok (.new 127, 3) := by decide +kernel
theorem dX7_setMultiplier_53 : decode cX7_setMultiplier 53 = .ok (.dup, 1) := by decide +kernel
theorem dX7_setMultiplier_54 : decode cX7_setMultiplier 54 = .ok (.ldc 176, 2) := by decide +kernel
theorem dX7_setMultiplier_56 : decode cX7_setMultiplier 56 = .ok (.invokespecial 131, 3) := by decide +kernel
theorem dX7_setMultiplier_59 : decode cX7_setMultiplier 59 = .ok (.athrow, 1) := by decide +kernel
theorem dX7_setMultiplier_60 : decode cX7_setMultiplier 60 = .ok (.aload_n 0, 1) := by decide +kernel
theorem dX7_setMultiplier_61 : decode cX7_setMultiplier 61 = .ok (.getfield 45, 3) := by decide +kernel
theorem dX7_setMultiplier_64 : decode cX7_setMultiplier 64 = .ok (.invokevirtual 112, 3) := by decide +kernel
theorem dX7_setMultiplier_67 : decode cX7_setMultiplier 67 = .ok (.aload_n 0, 1) := by decide +kernel
theorem dX7_setMultiplier_68 : decode cX7_setMultiplier 68 = .ok (.getfield 28, 3) := by decide +kernel
theorem dX7_setMultiplier_71 : decode cX7_setMultiplier 71 = .ok (.getfield 178, 3) := by decide +kernel
theorem dX7_setMultiplier_74 : decode cX7_setMultiplier 74 = .ok (.ireturn, 1) := by decide +kernel
theorem dX7_setPulling_0 : decode cX7_setPulling 0 = .ok (.aload_n 0, 1) := by decide +kernel
theorem dX7_setPulling_1 : decode cX7_setPulling 1 = .ok (.getfield 28, 3) := by decide +kernel
theorem dX7_setPulling_4 : decode cX7_setPulling 4 = .ok (.getfield 64, 3) := by decide +kernel
theorem dX7_setPulling_7 : decode cX7_setPulling 7 = .ok (.istore_n 2, 1) := by decide +kernel
theorem dX7_setPulling_8 : decode cX7_setPulling 8 = .ok (.aload_n 0, 1) := by decide +kernel
theorem dX7_setPulling_9 : decode cX7_setPulling 9 = .ok (.getfield 45, 3) := by decide +kernel
theorem dX7_setPulling_12 : decode cX7_setPulling 12 = .ok (.aload_n 0, 1) := by decide +kernel
theorem dX7_setPulling_13 : decode cX7_setPulling 13 = .ok (.getfield 28, 3) := by decide +kernel
theorem dX7_setPulling_16 : decode cX7_setPulling 16 = .ok (.invokevirtual 102, 3) := by decide +kernel
theorem dX7_setPulling_19 : decode cX7_setPulling 19 = .ok (.aload_n 0, 1) := by decide +kernel
theorem dX7_setPulling_20 : decode cX7_setPulling 20 = .ok (.getfield 28, 3) := by decide +kernel
theorem dX7_setPulling_23 : decode cX7_setPulling 23 = .ok (.iload_n 1, 1) := by decide +kernel
theorem dX7_setPulling_24 : decode cX7_setPulling 24 = .ok (.putfield 64, 3) := by decide +kernel
theorem dX7_setPulling_27 : decode cX7_setPulling 27 = .ok (.aload_n 0, 1) := by decide +kernel
theorem dX7_setPulling_28 : decode cX7_setPulling 28 = .ok (.getfield 45, 3) := by decide +kernel
theorem dX7_setPulling_31 : decode cX7_setPulling 31 = .ok (.invokevirtual 112, 3) := by decide +kernel
theorem dX7_setPulling_34 : decode cX7_setPulling 34 = .ok (.iload_n 2, 1) := by decide +kernel
theorem dX7_setPulling_35 : decode cX7_setPulling 35 = .ok (.ireturn, 1) := by decide +kernel
theorem dX7_grow_0 : decode cX7_grow 0 = .ok (.aload_n 0, 1) := by decide +kernel
theorem dX7_grow_1 : decode cX7_grow 1 = .ok (.getfield 45, 3) := by decide +kernel
theorem dX7_grow_4 : decode cX7_grow 4 = .ok (.aload_n 0, 1) := by decide +kernel
theorem dX7_grow_5 : decode cX7_grow 5 = .ok (.getfield 28, 3) := by decide +kernel
theorem dX7_grow_8 : decode cX7_grow 8 = .ok (.invokevirtual 102, 3) := by decide +kernel
theorem dX7_grow_11 : decode cX7_grow 11 = .ok (.aload_n 0, 1) := by decide +kernel
theorem dX7_grow_12 : decode cX7_grow 12 = .ok (.getfield 28, 3) := by decide +kernel
theorem dX7_grow_15 : decode cX7_grow 15 = .ok (.iconst 2, 1) := by decide +kernel
theorem dX7_grow_16 : decode cX7_grow 16 = .ok (.aload_n 0, 1) := by decide +kernel
theorem dX7_grow_17 : decode cX7_grow 17 = .ok (.getfield 28, 3) := by decide +kernel
theorem dX7_grow_20 : decode cX7_grow 20 = .ok (.getfield 178, 3) := by decide +kernel
theorem dX7_grow_23 : decode cX7_grow 23 = .ok (.imul, 1) := by decide +kernel
theorem dX7_grow_24 : decode cX7_grow 24 = .ok (.invokevirtual 189, 3) := by decide +kernel
theorem dX7_grow_27 : decode cX7_grow 27 = .ok (.ifCond .ne 24, 3) := by decide +kernel
theorem dX7_grow_30 : decode cX7_grow 30 = .ok (.aload_n 0, 1) := by decide +kernel
theorem dX7_grow_31 : decode cX7_grow 31 = .ok (.getfield 45, 3) := by decide +kernel
theorem dX7_grow_34 : decode cX7_grow 34 = .ok (.aload_n 0, 1) := by decide +kernel
theorem dX7_grow_35 : decode cX7_grow 35 = .ok (.getfield 28, 3) := by decide +kernel
theorem dX7_grow_38 : decode cX7_grow 38 = .ok (.invokevirtual 132, 3) := by decide +kernel
theorem dX7_grow_41 : decode cX7_grow 41 = .ok (.new 127, 3) := by decide +kernel
theorem dX7_grow_44 : decode cX7_grow 44 = .ok (.dup, 1) := by decide +kernel
theorem dX7_grow_45 : decode cX7_grow 45 = .ok (.ldc 176, 2) := by decide +kernel
theorem dX7_grow_47 : decode cX7_grow 47 = .ok (.invokespecial 131, 3) := by decide +kernel
theorem dX7_grow_50 : decode cX7_grow 50 = .ok (.athrow, 1) := by decide +kernel
theorem dX7_grow_51 : decode cX7_grow 51 = .ok (.aload_n 0, 1) := by decide +kernel
theorem dX7_grow_52 : decode cX7_grow 52 = .ok (.getfield 45, 3) := by decide +kernel
theorem dX7_grow_55 : decode cX7_grow 55 = .ok (.invokevirtual 112, 3) := by decide +kernel
theorem dX7_grow_58 : decode cX7_grow 58 = .ok (.aload_n 0, 1) := by decide +kernel
theorem dX7_grow_59 : decode cX7_grow 59 = .ok (.getfield 28, 3) := by decide +kernel
theorem dX7_grow_62 : decode cX7_grow 62 = .ok (.getfield 178, 3) := by decide +kernel
theorem dX7_grow_65 : decode cX7_grow 65 = .ok (.ireturn, 1) := by decide +kernel
theorem dX7_clear_0 : decode cX7_clear 0 = .ok (.aload_n 0, 1) := by decide +kernel
theorem dX7_clear_1 : decode cX7_clear 1 = .ok (.getfield 45, 3) := by decide +kernel
theorem dX7_clear_4 : decode cX7_clear 4 = .ok (.aload_n 0, 1) := by decide +kernel
theorem dX7_clear_5 : decode cX7_clear 5 = .ok (.getfield 28, 3) := by decide +kernel
theorem dX7_clear_8 : decode cX7_clear 8 = .ok (.invokevirtual 102, 3) := by decide +kernel
theorem dX7_clear_11 : decode cX7_clear 11 = .ok (.aload_n 0, 1) := by decide +kernel
theorem dX7_clear_12 : decode cX7_clear 12 = .ok (.getfield 28, 3) := by decide +kernel
theorem dX7_clear_15 : decode cX7_clear 15 = .ok (.invokevirtual 192, 3) := by decide +kernel
theorem dX7_clear_18 : decode cX7_clear 18 = .ok (.istore_n 1, 1) := by decide +kernel
theorem dX7_clear_19 : decode cX7_clear 19 = .ok (.aload_n 0, 1) := by decide +kernel
theorem dX7_clear_20 : decode cX7_clear 20 = .ok (.getfield 45, 3) := by decide +kernel
theorem dX7_clear_23 : decode cX7_clear 23 = .ok (.invokevirtual 112, 3) := by decide +kernel
theorem dX7_clear_26 : decode cX7_clear 26 = .ok (.iload_n 1, 1) := by decide +kernel
theorem dX7_clear_27 : decode cX7_clear 27 = .ok (.ireturn, 1) := by decide +kernel
theorem dX7_undo_0 : decode cX7_undo 0 = .ok (.aload_n 0, 1) := by decide +kernel
theorem dX7_undo_1 : decode cX7_undo 1 = .ok (.getfield 45, 3) := by decide +kernel
theorem dX7_undo_4 : decode cX7_undo 4 = .ok (.getfield 196, 3) := by decide +kernel
theorem dX7_undo_7 : decode cX7_undo 7 = .ok (.ifCond .ne 5, 3) := by decide +kernel
theorem dX7_undo_10 : decode cX7_undo 10 = .ok (.iconst (-1), 1) := by decide +kernel
theorem dX7_undo_11 : decode cX7_undo 11 = .ok (.ireturn, 1) := by decide +kernel
theorem dX7_undo_12 : decode cX7_undo 12 = .ok (.aload_n 0, 1) := by decide +kernel
theorem dX7_undo_13 : decode cX7_undo 13 = .ok (.getfield 45, 3) := by decide +kernel
theorem dX7_undo_16 : decode cX7_undo 16 = .ok (.aload_n 0, 1) := by decide +kernel
theorem dX7_undo_17 : decode cX7_undo 17 = .ok (.getfield 28, 3) := by decide +kernel
theorem dX7_undo_20 : decode cX7_undo 20 = .ok (.invokevirtual 199, 3) := by decide +kernel
theorem dX7_undo_23 : decode cX7_undo 23 = .ok (.aload_n 0, 1) := by decide +kernel
theorem dX7_undo_24 : decode cX7_undo 24 = .ok (.getfield 45, 3) := by decide +kernel
theorem dX7_undo_27 : decode cX7_undo 27 = .ok (.getfield 196, 3) := by decide +kernel
theorem dX7_undo_30 : decode cX7_undo 30 = .ok (.ireturn, 1) := by decide +kernel
theorem dX7_undoCount_0 : decode cX7_undoCount 0 = .ok (.aload_n 0, 1) := by decide +kernel
theorem dX7_undoCount_1 : decode cX7_undoCount 1 = .ok (.getfield 45, 3) := by decide +kernel
theorem dX7_undoCount_4 : decode cX7_undoCount 4 = .ok (.getfield 196, 3) := by decide +kernel
theorem dX7_undoCount_7 : decode cX7_undoCount 7 = .ok (.ireturn, 1) := by decide +kernel
theorem dX7_bucketCount_0 : decode cX7_bucketCount 0 = .ok (.aload_n 0, 1) := by decide +kernel
theorem dX7_bucketCount_1 : decode cX7_bucketCount 1 = .ok (.getfield 28, 3) := by decide +kernel
theorem dX7_bucketCount_4 : decode cX7_bucketCount 4 = .ok (.getfield 178, 3) := by decide +kernel
theorem dX7_bucketCount_7 : decode cX7_bucketCount 7 = .ok (.ireturn, 1) := by decide +kernel
theorem dX7_entryCount_0 : decode cX7_entryCount 0 = .ok (.aload_n 0, 1) := by decide +kernel
theorem dX7_entryCount_1 : decode cX7_entryCount 1 = .ok (.getfield 28, 3) := by decide +kernel
theorem dX7_entryCount_4 : decode cX7_entryCount 4 = .ok (.getfield 115, 3) := by decide +kernel
theorem dX7_entryCount_7 : decode cX7_entryCount 7 = .ok (.ireturn, 1) := by decide +kernel
theorem dX7_neighbourhood_0 : decode cX7_neighbourhood 0 = .ok (.aload_n 0, 1) := by decide +kernel
theorem dX7_neighbourhood_1 : decode cX7_neighbourhood 1 = .ok (.getfield 28, 3) := by decide +kernel
theorem dX7_neighbourhood_4 : decode cX7_neighbourhood 4 = .ok (.getfield 207, 3) := by decide +kernel
theorem dX7_neighbourhood_7 : decode cX7_neighbourhood 7 = .ok (.ireturn, 1) := by decide +kernel
theorem dX7_multiplier_0 : decode cX7_multiplier 0 = .ok (.aload_n 0, 1) := by decide +kernel
theorem dX7_multiplier_1 : decode cX7_multiplier 1 = .ok (.getfield 28, 3) := by decide +kernel
theorem dX7_multiplier_4 : decode cX7_multiplier 4 = .ok (.getfield 210, 3) := by decide +kernel
theorem dX7_multiplier_7 : decode cX7_multiplier 7 = .ok (.ireturn, 1) := by decide +kernel
theorem dX7_isPulling_0 : decode cX7_isPulling 0 = .ok (.aload_n 0, 1) := by decide +kernel
theorem dX7_isPulling_1 : decode cX7_isPulling 1 = .ok (.getfield 28, 3) := by decide +kernel
theorem dX7_isPulling_4 : decode cX7_isPulling 4 = .ok (.getfield 64, 3) := by decide +kernel
theorem dX7_isPulling_7 : decode cX7_isPulling 7 = .ok (.ireturn, 1) := by decide +kernel
theorem dX7_keyAt_0 : decode cX7_keyAt 0 = .ok (.aload_n 0, 1) := by decide +kernel
theorem dX7_keyAt_1 : decode cX7_keyAt 1 = .ok (.iload_n 1, 1) := by decide +kernel
theorem dX7_keyAt_2 : decode cX7_keyAt 2 = .ok (.invokevirtual 213, 3) := by decide +kernel
theorem dX7_keyAt_5 : decode cX7_keyAt 5 = .ok (.aload_n 0, 1) := by decide +kernel
theorem dX7_keyAt_6 : decode cX7_keyAt 6 = .ok (.getfield 28, 3) := by decide +kernel
theorem dX7_keyAt_9 : decode cX7_keyAt 9 = .ok (.iload_n 1, 1) := by decide +kernel
theorem dX7_keyAt_10 : decode cX7_keyAt 10 = .ok (.invokevirtual 216, 3) := by decide +kernel
theorem dX7_keyAt_13 : decode cX7_keyAt 13 = .ok (.ireturn, 1) := by decide +kernel
theorem dX7_valueAt_0 : decode cX7_valueAt 0 = .ok (.aload_n 0, 1) := by decide +kernel
theorem dX7_valueAt_1 : decode cX7_valueAt 1 = .ok (.iload_n 1, 1) := by decide +kernel
theorem dX7_valueAt_2 : decode cX7_valueAt 2 = .ok (.invokevirtual 213, 3) := by decide +kernel
theorem dX7_valueAt_5 : decode cX7_valueAt 5 = .ok (.aload_n 0, 1) := by decide +kernel
theorem dX7_valueAt_6 : decode cX7_valueAt 6 = .ok (.getfield 28, 3) := by decide +kernel
theorem dX7_valueAt_9 : decode cX7_valueAt 9 = .ok (.iload_n 1, 1) := by decide +kernel
theorem dX7_valueAt_10 : decode cX7_valueAt 10 = .ok (.invokevirtual 137, 3) := by decide +kernel
theorem dX7_valueAt_13 : decode cX7_valueAt 13 = .ok (.ireturn, 1) := by decide +kernel
theorem dX7_hopBits_0 : decode cX7_hopBits 0 = .ok (.aload_n 0, 1) := by decide +kernel
theorem dX7_hopBits_1 : decode cX7_hopBits 1 = .ok (.iload_n 1, 1) := by decide +kernel
theorem dX7_hopBits_2 : decode cX7_hopBits 2 = .ok (.invokevirtual 213, 3) := by decide +kernel
theorem dX7_hopBits_5 : decode cX7_hopBits 5 = .ok (.aload_n 0, 1) := by decide +kernel
theorem dX7_hopBits_6 : decode cX7_hopBits 6 = .ok (.getfield 28, 3) := by decide +kernel
theorem dX7_hopBits_9 : decode cX7_hopBits 9 = .ok (.iload_n 1, 1) := by decide +kernel
theorem dX7_hopBits_10 : decode cX7_hopBits 10 = .ok (.invokevirtual 219, 3) := by decide +kernel
theorem dX7_hopBits_13 : decode cX7_hopBits 13 = .ok (.ireturn, 1) := by decide +kernel
theorem dX7_entriesOf_0 : decode cX7_entriesOf 0 = .ok (.aload_n 0, 1) := by decide +kernel
theorem dX7_entriesOf_1 : decode cX7_entriesOf 1 = .ok (.iload_n 1, 1) := by decide +kernel
theorem dX7_entriesOf_2 : decode cX7_entriesOf 2 = .ok (.invokevirtual 213, 3) := by decide +kernel
theorem dX7_entriesOf_5 : decode cX7_entriesOf 5 = .ok (.aload_n 0, 1) := by decide +kernel
theorem dX7_entriesOf_6 : decode cX7_entriesOf 6 = .ok (.getfield 28, 3) := by decide +kernel
theorem dX7_entriesOf_9 : decode cX7_entriesOf 9 = .ok (.iload_n 1, 1) := by decide +kernel
theorem dX7_entriesOf_10 : decode cX7_entriesOf 10 = .ok (.invokevirtual 219, 3) := by decide +kernel
theorem dX7_entriesOf_13 : decode cX7_entriesOf 13 = .ok (.invokestatic 222, 3) := by decide +kernel
theorem dX7_entriesOf_16 : decode cX7_entriesOf 16 = .ok (.ireturn, 1) := by decide +kernel
theorem dX7_homeOf_0 : decode cX7_homeOf 0 = .ok (.iload_n 1, 1) := by decide +kernel
theorem dX7_homeOf_1 : decode cX7_homeOf 1 = .ok (.invokestatic 118, 3) := by decide +kernel
theorem dX7_homeOf_4 : decode cX7_homeOf 4 = .ok (.aload_n 0, 1) := by decide +kernel
theorem dX7_homeOf_5 : decode cX7_homeOf 5 = .ok (.getfield 28, 3) := by decide +kernel
theorem dX7_homeOf_8 : decode cX7_homeOf 8 = .ok (.iload_n 1, 1) := by decide +kernel
theorem dX7_homeOf_9 : decode cX7_homeOf 9 = .ok (.invokevirtual 236, 3) := by decide +kernel
theorem dX7_homeOf_12 : decode cX7_homeOf 12 = .ok (.ireturn, 1) := by decide +kernel
theorem dX7_bucketOf_0 : decode cX7_bucketOf 0 = .ok (.iload_n 1, 1) := by decide +kernel
theorem dX7_bucketOf_1 : decode cX7_bucketOf 1 = .ok (.invokestatic 118, 3) := by decide +kernel
theorem dX7_bucketOf_4 : decode cX7_bucketOf 4 = .ok (.aload_n 0, 1) := by decide +kernel
theorem dX7_bucketOf_5 : decode cX7_bucketOf 5 = .ok (.getfield 28, 3) := by decide +kernel
theorem dX7_bucketOf_8 : decode cX7_bucketOf 8 = .ok (.iload_n 1, 1) := by decide +kernel
theorem dX7_bucketOf_9 : decode cX7_bucketOf 9 = .ok (.invokevirtual 124, 3) := by decide +kernel
theorem dX7_bucketOf_12 : decode cX7_bucketOf 12 = .ok (.ireturn, 1) := by decide +kernel
theorem dX7_valueOf_0 : decode cX7_valueOf 0 = .ok (.iload_n 1, 1) := by decide +kernel
theorem dX7_valueOf_1 : decode cX7_valueOf 1 = .ok (.invokestatic 118, 3) := by decide +kernel
theorem dX7_valueOf_4 : decode cX7_valueOf 4 = .ok (.aload_n 0, 1) := by decide +kernel
theorem dX7_valueOf_5 : decode cX7_valueOf 5 = .ok (.getfield 28, 3) := by decide +kernel
theorem dX7_valueOf_8 : decode cX7_valueOf 8 = .ok (.aload_n 0, 1) := by decide +kernel
theorem dX7_valueOf_9 : decode cX7_valueOf 9 = .ok (.getfield 28, 3) := by decide +kernel
theorem dX7_valueOf_12 : decode cX7_valueOf 12 = .ok (.iload_n 1, 1) := by decide +kernel
theorem dX7_valueOf_13 : decode cX7_valueOf 13 = .ok (.invokevirtual 124, 3) := by decide +kernel
theorem dX7_valueOf_16 : decode cX7_valueOf 16 = .ok (.invokevirtual 137, 3) := by decide +kernel
theorem dX7_valueOf_19 : decode cX7_valueOf 19 = .ok (.ireturn, 1) := by decide +kernel
theorem dX7_distanceOf_0 : decode cX7_distanceOf 0 = .ok (.iload_n 1, 1) := by decide +kernel
theorem dX7_distanceOf_1 : decode cX7_distanceOf 1 = .ok (.invokestatic 118, 3) := by decide +kernel
theorem dX7_distanceOf_4 : decode cX7_distanceOf 4 = .ok (.aload_n 0, 1) := by decide +kernel
theorem dX7_distanceOf_5 : decode cX7_distanceOf 5 = .ok (.getfield 28, 3) := by decide +kernel
theorem dX7_distanceOf_8 : decode cX7_distanceOf 8 = .ok (.aload_n 0, 1) := by decide +kernel
theorem dX7_distanceOf_9 : decode cX7_distanceOf 9 = .ok (.getfield 28, 3) := by decide +kernel
theorem dX7_distanceOf_12 : decode cX7_distanceOf 12 = .ok (.iload_n 1, 1) := by decide +kernel
theorem dX7_distanceOf_13 : decode cX7_distanceOf 13 = .ok (.invokevirtual 124, 3) := by decide +kernel
theorem dX7_distanceOf_16 : decode cX7_distanceOf 16 = .ok (.invokevirtual 239, 3) := by decide +kernel
theorem dX7_distanceOf_19 : decode cX7_distanceOf 19 = .ok (.ireturn, 1) := by decide +kernel
theorem dX7_longestDistance_0 : decode cX7_longestDistance 0 = .ok (.aload_n 0, 1) := by decide +kernel
theorem dX7_longestDistance_1 : decode cX7_longestDistance 1 = .ok (.getfield 28, 3) := by decide +kernel
theorem dX7_longestDistance_4 : decode cX7_longestDistance 4 = .ok (.invokevirtual 245, 3) := by decide +kernel
theorem dX7_longestDistance_7 : decode cX7_longestDistance 7 = .ok (.ireturn, 1) := by decide +kernel
theorem dX7_sumOfDistances_0 : decode cX7_sumOfDistances 0 = .ok (.aload_n 0, 1) := by decide +kernel
theorem dX7_sumOfDistances_1 : decode cX7_sumOfDistances 1 = .ok (.getfield 28, 3) := by decide +kernel
theorem dX7_sumOfDistances_4 : decode cX7_sumOfDistances 4 = .ok (.invokevirtual 248, 3) := by decide +kernel
theorem dX7_sumOfDistances_7 : decode cX7_sumOfDistances 7 = .ok (.ireturn, 1) := by decide +kernel
theorem dX7_whyNoAdd_0 : decode cX7_whyNoAdd 0 = .ok (.iload_n 1, 1) := by decide +kernel
theorem dX7_whyNoAdd_1 : decode cX7_whyNoAdd 1 = .ok (.invokestatic 118, 3) := by decide +kernel
theorem dX7_whyNoAdd_4 : decode cX7_whyNoAdd 4 = .ok (.aload_n 0, 1) := by decide +kernel
theorem dX7_whyNoAdd_5 : decode cX7_whyNoAdd 5 = .ok (.getfield 28, 3) := by decide +kernel
theorem dX7_whyNoAdd_8 : decode cX7_whyNoAdd 8 = .ok (.iload_n 1, 1) := by decide +kernel
theorem dX7_whyNoAdd_9 : decode cX7_whyNoAdd 9 = .ok (.invokevirtual 124, 3) := by decide +kernel
theorem dX7_whyNoAdd_12 : decode cX7_whyNoAdd 12 = .ok (.iconst (-1), 1) := by decide +kernel
theorem dX7_whyNoAdd_13 : decode cX7_whyNoAdd 13 = .ok (.if_icmp .eq 5, 3) := by decide +kernel
theorem dX7_whyNoAdd_16 : decode cX7_whyNoAdd 16 = .ok (.iconst 1, 1) := by decide +kernel
theorem dX7_whyNoAdd_17 : decode cX7_whyNoAdd 17 = .ok (.ireturn, 1) := by decide +kernel
theorem dX7_whyNoAdd_18 : decode cX7_whyNoAdd 18 = .ok (.aload_n 0, 1) := by decide +kernel
theorem dX7_whyNoAdd_19 : decode cX7_whyNoAdd 19 = .ok (.iload_n 1, 1) := by decide +kernel
theorem dX7_whyNoAdd_20 : decode cX7_whyNoAdd 20 = .ok (.invokevirtual 254, 3) := by decide +kernel
theorem dX7_whyNoAdd_23 : decode cX7_whyNoAdd 23 = .ok (.iconst (-1), 1) := by decide +kernel
theorem dX7_whyNoAdd_24 : decode cX7_whyNoAdd 24 = .ok (.if_icmp .ne 7, 3) := by decide +kernel
theorem dX7_whyNoAdd_27 : decode cX7_whyNoAdd 27 = .ok (.iconst 2, 1) := by decide +kernel
theorem dX7_whyNoAdd_28 : decode cX7_whyNoAdd 28 = .ok (.goto 4, 3) := by decide +kernel
theorem dX7_whyNoAdd_31 : decode cX7_whyNoAdd 31 = .ok (.iconst 0, 1) := by decide +kernel
theorem dX7_whyNoAdd_32 : decode cX7_whyNoAdd 32 = .ok (.ireturn, 1) := by decide +kernel
theorem dX7_bucketsWith_0 : decode cX7_bucketsWith 0 = .ok (.iload_n 1, 1) := by decide +kernel
theorem dX7_bucketsWith_1 : decode cX7_bucketsWith 1 = .ok (.invokestatic 168, 3) := by decide +kernel
theorem dX7_bucketsWith_4 : decode cX7_bucketsWith 4 = .ok (.ifCond .ne 13, 3) := by decide +kernel
theorem dX7_bucketsWith_7 : decode cX7_bucketsWith 7 = .ok (.new 79, 3) := by decide +kernel
theorem dX7_bucketsWith_10 : decode cX7_bucketsWith 10 = .ok (.dup, 1) := by decide +kernel
theorem dX7_bucketsWith_11 : decode cX7_bucketsWith 11 = .ok (.ldc 171, 2) := by decide +kernel
theorem dX7_bucketsWith_13 : decode cX7_bucketsWith 13 = .ok (.invokespecial 83, 3) := by decide +kernel
theorem dX7_bucketsWith_16 : decode cX7_bucketsWith 16 = .ok (.athrow, 1) := by decide +kernel
theorem dX7_bucketsWith_17 : decode cX7_bucketsWith 17 = .ok (.aload_n 0, 1) := by decide +kernel
theorem dX7_bucketsWith_18 : decode cX7_bucketsWith 18 = .ok (.getfield 32, 3) := by decide +kernel
theorem dX7_bucketsWith_21 : decode cX7_bucketsWith 21 = .ok (.aload_n 0, 1) := by decide +kernel
theorem dX7_bucketsWith_22 : decode cX7_bucketsWith 22 = .ok (.getfield 28, 3) := by decide +kernel
theorem dX7_bucketsWith_25 : decode cX7_bucketsWith 25 = .ok (.invokevirtual 109, 3) := by decide +kernel
theorem dX7_bucketsWith_28 : decode cX7_bucketsWith 28 = .ok (.aload_n 0, 1) := by decide +kernel
theorem dX7_bucketsWith_29 : decode cX7_bucketsWith 29 = .ok (.getfield 32, 3) := by decide +kernel
theorem dX7_bucketsWith_32 : decode cX7_bucketsWith 32 = .ok (.iload_n 1, 1) := by decide +kernel
theorem dX7_bucketsWith_33 : decode cX7_bucketsWith 33 = .ok (.invokevirtual 173, 3) := by decide +kernel
theorem dX7_bucketsWith_36 : decode cX7_bucketsWith 36 = .ok (.ifCond .eq 13, 3) := by decide +kernel
theorem dX7_bucketsWith_39 : decode cX7_bucketsWith 39 = .ok (.aload_n 0, 1) := by decide +kernel
theorem dX7_bucketsWith_40 : decode cX7_bucketsWith 40 = .ok (.getfield 32, 3) := by decide +kernel
theorem dX7_bucketsWith_43 : decode cX7_bucketsWith 43 = .ok (.getfield 178, 3) := by decide +kernel
theorem dX7_bucketsWith_46 : decode cX7_bucketsWith 46 = .ok (.goto 4, 3) := by decide +kernel
theorem dX7_bucketsWith_49 : decode cX7_bucketsWith 49 = .ok (.iconst (-1), 1) := by decide +kernel
theorem dX7_bucketsWith_50 : decode cX7_bucketsWith 50 = .ok (.ireturn, 1) := by decide +kernel
theorem dX7_bestMultiplier_0 : decode cX7_bestMultiplier 0 = .ok (.iload_n 1, 1) := by decide +kernel
theorem dX7_bestMultiplier_1 : decode cX7_bestMultiplier 1 = .ok (.iconst 1, 1) := by decide +kernel
theorem dX7_bestMultiplier_2 : decode cX7_bestMultiplier 2 = .ok (.if_icmp .lt 9, 3) := by decide +kernel
theorem dX7_bestMultiplier_5 : decode cX7_bestMultiplier 5 = .ok (.iload_n 1, 1) := by decide +kernel
theorem dX7_bestMultiplier_6 : decode cX7_bestMultiplier 6 = .ok (.bipush 30, 2) := by decide +kernel
theorem dX7_bestMultiplier_8 : decode cX7_bestMultiplier 8 = .ok (.if_icmp .le 14, 3) := by decide +kernel
theorem dX7_bestMultiplier_11 : decode cX7_bestMultiplier 11 = .ok (.new 79, 3) := by decide +kernel
theorem dX7_bestMultiplier_14 : decode cX7_bestMultiplier 14 = .ok (.dup, 1) := by decide +kernel
theorem dX7_bestMultiplier_15 : decode cX7_bestMultiplier 15 = .ok (.ldc_w 263, 3) := by decide +kernel
theorem dX7_bestMultiplier_18 : decode cX7_bestMultiplier 18 = .ok (.invokespecial 83, 3) := by decide +kernel
theorem dX7_bestMultiplier_21 : decode cX7_bestMultiplier 21 = .ok (.athrow, 1) := by decide +kernel
theorem dX7_bestMultiplier_22 : decode cX7_bestMultiplier 22 = .ok (.iconst (-1), 1) := by decide +kernel
theorem dX7_bestMultiplier_23 : decode cX7_bestMultiplier 23 = .ok (.istore_n 2, 1) := by decide +kernel
theorem dX7_bestMultiplier_24 : decode cX7_bestMultiplier 24 = .ok (.iconst 0, 1) := by decide +kernel
theorem dX7_bestMultiplier_25 : decode cX7_bestMultiplier 25 = .ok (.istore_n 3, 1) := by decide +kernel
theorem dX7_bestMultiplier_26 : decode cX7_bestMultiplier 26 = .ok (.iconst 1, 1) := by decide +kernel
theorem dX7_bestMultiplier_27 : decode cX7_bestMultiplier 27 = .ok (.istore 4, 2) := by decide +kernel
theorem dX7_bestMultiplier_29 : decode cX7_bestMultiplier 29 = .ok (.iload 4, 2) := by decide +kernel
theorem dX7_bestMultiplier_31 : decode cX7_bestMultiplier 31 = .ok (.iload_n 1, 1) := by decide +kernel
theorem dX7_bestMultiplier_32 : decode cX7_bestMultiplier 32 = .ok (.if_icmp .gt 78, 3) := by decide +kernel
theorem dX7_bestMultiplier_35 : decode cX7_bestMultiplier 35 = .ok (.aload_n 0, 1) := by decide +kernel
theorem dX7_bestMultiplier_36 : decode cX7_bestMultiplier 36 = .ok (.getfield 32, 3) := by decide +kernel
theorem dX7_bestMultiplier_39 : decode cX7_bestMultiplier 39 = .ok (.aload_n 0, 1) := by decide +kernel
theorem dX7_bestMultiplier_40 : decode cX7_bestMultiplier 40 = .ok (.getfield 28, 3) := by decide +kernel
theorem dX7_bestMultiplier_43 : decode cX7_bestMultiplier 43 = .ok (.invokevirtual 109, 3) := by decide +kernel
theorem dX7_bestMultiplier_46 : decode cX7_bestMultiplier 46 = .ok (.aload_n 0, 1) := by decide +kernel
theorem dX7_bestMultiplier_47 : decode cX7_bestMultiplier 47 = .ok (.getfield 32, 3) := by decide +kernel
theorem dX7_bestMultiplier_50 : decode cX7_bestMultiplier 50 = .ok (.iload 4, 2) := by decide +kernel
theorem dX7_bestMultiplier_52 : decode cX7_bestMultiplier 52 = .ok (.invokevirtual 186, 3) := by decide +kernel
theorem dX7_bestMultiplier_55 : decode cX7_bestMultiplier 55 = .ok (.ifCond .eq 49, 3) := by decide +kernel
theorem dX7_bestMultiplier_58 : decode cX7_bestMultiplier 58 = .ok (.aload_n 0, 1) := by decide +kernel
theorem dX7_bestMultiplier_59 : decode cX7_bestMultiplier 59 = .ok (.getfield 32, 3) := by decide +kernel
theorem dX7_bestMultiplier_62 : decode cX7_bestMultiplier 62 = .ok (.getfield 178, 3) := by decide +kernel
theorem dX7_bestMultiplier_65 : decode cX7_bestMultiplier 65 = .ok (.aload_n 0, 1) := by decide +kernel
theorem dX7_bestMultiplier_66 : decode cX7_bestMultiplier 66 = .ok (.getfield 28, 3) := by decide +kernel
theorem dX7_bestMultiplier_69 : decode cX7_bestMultiplier 69 = .ok (.getfield 178, 3) := by decide +kernel
theorem dX7_bestMultiplier_72 : decode cX7_bestMultiplier 72 = .ok (.if_icmp .eq 6, 3) := by decide +kernel
theorem dX7_bestMultiplier_75 : decode cX7_bestMultiplier 75 = .ok (.goto 29, 3) := by decide +kernel
theorem dX7_bestMultiplier_78 : decode cX7_bestMultiplier 78 = .ok (.aload_n 0, 1) := by decide +kernel
theorem dX7_bestMultiplier_79 : decode cX7_bestMultiplier 79 = .ok (.getfield 32, 3) := by decide +kernel
theorem dX7_bestMultiplier_82 : decode cX7_bestMultiplier 82 = .ok (.invokevirtual 248, 3) := by decide +kernel
theorem dX7_bestMultiplier_85 : decode cX7_bestMultiplier 85 = .ok (.istore 5, 2) := by decide +kernel
theorem dX7_bestMultiplier_87 : decode cX7_bestMultiplier 87 = .ok (.iload_n 2, 1) := by decide +kernel
theorem dX7_bestMultiplier_88 : decode cX7_bestMultiplier 88 = .ok (.iconst (-1), 1) := by decide +kernel
theorem dX7_bestMultiplier_89 : decode cX7_bestMultiplier 89 = .ok (.if_icmp .eq 9, 3) := by decide +kernel
theorem dX7_bestMultiplier_92 : decode cX7_bestMultiplier 92 = .ok (.iload 5, 2) := by decide +kernel
theorem dX7_bestMultiplier_94 : decode cX7_bestMultiplier 94 = .ok (.iload_n 3, 1) := by decide +kernel
theorem dX7_bestMultiplier_95 : decode cX7_bestMultiplier 95 = .ok (.if_icmp .ge 9, 3) := by decide +kernel
theorem dX7_bestMultiplier_98 : decode cX7_bestMultiplier 98 = .ok (.iload 4, 2) := by decide +kernel
theorem dX7_bestMultiplier_100 : decode cX7_bestMultiplier 100 = .ok (.istore_n 2, 1) := by decide +kernel
theorem dX7_bestMultiplier_101 : decode cX7_bestMultiplier 101 = .ok (.iload 5, 2) := by decide +kernel
theorem dX7_bestMultiplier_103 : decode cX7_bestMultiplier 103 = .ok (.istore_n 3, 1) := by decide +kernel
theorem dX7_bestMultiplier_104 : decode cX7_bestMultiplier 104 = .ok (.iinc 4 1, 3) := by decide +kernel
theorem dX7_bestMultiplier_107 : decode cX7_bestMultiplier 107 = .ok (.goto (-78), 3) := by decide +kernel
theorem dX7_bestMultiplier_110 : decode cX7_bestMultiplier 110 = .ok (.iload_n 2, 1) := by decide +kernel
theorem dX7_bestMultiplier_111 : decode cX7_bestMultiplier 111 = .ok (.ireturn, 1) := by decide +kernel
theorem dX7_moves_0 : decode cX7_moves 0 = .ok (.aload_n 0, 1) := by decide +kernel
theorem dX7_moves_1 : decode cX7_moves 1 = .ok (.getfield 28, 3) := by decide +kernel
theorem dX7_moves_4 : decode cX7_moves 4 = .ok (.getfield 257, 3) := by decide +kernel
theorem dX7_moves_7 : decode cX7_moves 7 = .ok (.ireturn, 1) := by decide +kernel
theorem dX7_pulls_0 : decode cX7_pulls 0 = .ok (.aload_n 0, 1) := by decide +kernel
theorem dX7_pulls_1 : decode cX7_pulls 1 = .ok (.getfield 28, 3) := by decide +kernel
theorem dX7_pulls_4 : decode cX7_pulls 4 = .ok (.getfield 260, 3) := by decide +kernel
theorem dX7_pulls_7 : decode cX7_pulls 7 = .ok (.ireturn, 1) := by decide +kernel
theorem dX7_growths_0 : decode cX7_growths 0 = .ok (.aload_n 0, 1) := by decide +kernel
theorem dX7_growths_1 : decode cX7_growths 1 = .ok (.getfield 28, 3) := by decide +kernel
theorem dX7_growths_4 : decode cX7_growths 4 = .ok (.getfield 265, 3) := by decide +kernel
theorem dX7_growths_7 : decode cX7_growths 7 = .ok (.ireturn, 1) := by decide +kernel
theorem dX7_addedCount_0 : decode cX7_addedCount 0 = .ok (.aload_n 0, 1) := by decide +kernel
theorem dX7_addedCount_1 : decode cX7_addedCount 1 = .ok (.getfield 28, 3) := by decide +kernel
theorem dX7_addedCount_4 : decode cX7_addedCount 4 = .ok (.getfield 268, 3) := by decide +kernel
theorem dX7_addedCount_7 : decode cX7_addedCount 7 = .ok (.ireturn, 1) := by decide +kernel
theorem dX7_removedCount_0 : decode cX7_removedCount 0 = .ok (.aload_n 0, 1) := by decide +kernel
theorem dX7_removedCount_1 : decode cX7_removedCount 1 = .ok (.getfield 28, 3) := by decide +kernel
theorem dX7_removedCount_4 : decode cX7_removedCount 4 = .ok (.getfield 271, 3) := by decide +kernel
theorem dX7_removedCount_7 : decode cX7_removedCount 7 = .ok (.ireturn, 1) := by decide +kernel
theorem dX7_violations_0 : decode cX7_violations 0 = .ok (.aload_n 0, 1) := by decide +kernel
theorem dX7_violations_1 : decode cX7_violations 1 = .ok (.getfield 28, 3) := by decide +kernel
theorem dX7_violations_4 : decode cX7_violations 4 = .ok (.getfield 268, 3) := by decide +kernel
theorem dX7_violations_7 : decode cX7_violations 7 = .ok (.aload_n 0, 1) := by decide +kernel
theorem dX7_violations_8 : decode cX7_violations 8 = .ok (.getfield 28, 3) := by decide +kernel
theorem dX7_violations_11 : decode cX7_violations 11 = .ok (.getfield 271, 3) := by decide +kernel
theorem dX7_violations_14 : decode cX7_violations 14 = .ok (.aload_n 0, 1) := by decide +kernel
theorem dX7_violations_15 : decode cX7_violations 15 = .ok (.getfield 28, 3) := by decide +kernel
theorem dX7_violations_18 : decode cX7_violations 18 = .ok (.getfield 115, 3) := by decide +kernel
theorem dX7_violations_21 : decode cX7_violations 21 = .ok (.iadd, 1) := by decide +kernel
theorem dX7_violations_22 : decode cX7_violations 22 = .ok (.isub, 1) := by decide +kernel
theorem dX7_violations_23 : decode cX7_violations 23 = .ok (.invokestatic 274, 3) := by decide +kernel
theorem dX7_violations_26 : decode cX7_violations 26 = .ok (.istore_n 1, 1) := by decide +kernel
theorem dX7_violations_27 : decode cX7_violations 27 = .ok (.aload_n 0, 1) := by decide +kernel
theorem dX7_violations_28 : decode cX7_violations 28 = .ok (.getfield 28, 3) := by decide +kernel
theorem dX7_violations_31 : decode cX7_violations 31 = .ok (.invokevirtual 279, 3) := by decide +kernel
theorem dX7_violations_34 : decode cX7_violations 34 = .ok (.aload_n 0, 1) := by decide +kernel
theorem dX7_violations_35 : decode cX7_violations 35 = .ok (.getfield 28, 3) := by decide +kernel
theorem dX7_violations_38 : decode cX7_violations 38 = .ok (.invokevirtual 282, 3) := by decide +kernel
theorem dX7_violations_41 : decode cX7_violations 41 = .ok (.iadd, 1) := by decide +kernel
theorem dX7_violations_42 : decode cX7_violations 42 = .ok (.aload_n 0, 1) := by decide +kernel
theorem dX7_violations_43 : decode cX7_violations 43 = .ok (.getfield 28, 3) := by decide +kernel
theorem dX7_violations_46 : decode cX7_violations 46 = .ok (.invokevirtual 285, 3) := by decide +kernel
theorem dX7_violations_49 : decode cX7_violations 49 = .ok (.iadd, 1) := by decide +kernel
theorem dX7_violations_50 : decode cX7_violations 50 = .ok (.iload_n 1, 1) := by decide +kernel
theorem dX7_violations_51 : decode cX7_violations 51 = .ok (.iadd, 1) := by decide +kernel
theorem dX7_violations_52 : decode cX7_violations 52 = .ok (.ireturn, 1) := by decide +kernel
theorem dX7_needKey_0 : decode cX7_needKey 0 = .ok (.iload_n 0, 1) := by decide +kernel
theorem dX7_needKey_1 : decode cX7_needKey 1 = .ok (.invokestatic 144, 3) := by decide +kernel
theorem dX7_needKey_4 : decode cX7_needKey 4 = .ok (.ifCond .ne 14, 3) := by decide +kernel
theorem dX7_needKey_7 : decode cX7_needKey 7 = .ok (.new 79, 3) := by decide +kernel
theorem dX7_needKey_10 : decode cX7_needKey 10 = .ok (.dup, 1) := by decide +kernel
theorem dX7_needKey_11 : decode cX7_needKey 11 = .ok (.ldc_w 299, 3) := by decide +kernel
theorem dX7_needKey_14 : decode cX7_needKey 14 = .ok (.invokespecial 83, 3) := by decide +kernel
theorem dX7_needKey_17 : decode cX7_needKey 17 = .ok (.athrow, 1) := by decide +kernel
theorem dX7_needKey_18 : decode cX7_needKey 18 = .ok (.return_, 1) := by decide +kernel
theorem dX7_needValue_0 : decode cX7_needValue 0 = .ok (.iload_n 0, 1) := by decide +kernel
theorem dX7_needValue_1 : decode cX7_needValue 1 = .ok (.invokestatic 301, 3) := by decide +kernel
theorem dX7_needValue_4 : decode cX7_needValue 4 = .ok (.ifCond .ne 14, 3) := by decide +kernel
theorem dX7_needValue_7 : decode cX7_needValue 7 = .ok (.new 79, 3) := by decide +kernel
theorem dX7_needValue_10 : decode cX7_needValue 10 = .ok (.dup, 1) := by decide +kernel
theorem dX7_needValue_11 : decode cX7_needValue 11 = .ok (.ldc_w 304, 3) := by decide +kernel
theorem dX7_needValue_14 : decode cX7_needValue 14 = .ok (.invokespecial 83, 3) := by decide +kernel
theorem dX7_needValue_17 : decode cX7_needValue 17 = .ok (.athrow, 1) := by decide +kernel
theorem dX7_needValue_18 : decode cX7_needValue 18 = .ok (.return_, 1) := by decide +kernel
theorem dX7_needBucket_0 : decode cX7_needBucket 0 = .ok (.aload_n 0, 1) := by decide +kernel
theorem dX7_needBucket_1 : decode cX7_needBucket 1 = .ok (.getfield 28, 3) := by decide +kernel
theorem dX7_needBucket_4 : decode cX7_needBucket 4 = .ok (.iload_n 1, 1) := by decide +kernel
theorem dX7_needBucket_5 : decode cX7_needBucket 5 = .ok (.invokevirtual 306, 3) := by decide +kernel
theorem dX7_needBucket_8 : decode cX7_needBucket 8 = .ok (.ifCond .ne 14, 3) := by decide +kernel
theorem dX7_needBucket_11 : decode cX7_needBucket 11 = .ok (.new 309, 3) := by decide +kernel
theorem dX7_needBucket_14 : decode cX7_needBucket 14 = .ok (.dup, 1) := by decide +kernel
theorem dX7_needBucket_15 : decode cX7_needBucket 15 = .ok (.ldc_w 311, 3) := by decide +kernel
theorem dX7_needBucket_18 : decode cX7_needBucket 18 = .ok (.invokespecial 313, 3) := by decide +kernel
theorem dX7_needBucket_21 : decode cX7_needBucket 21 = .ok (.athrow, 1) := by decide +kernel
theorem dX7_needBucket_22 : decode cX7_needBucket 22 = .ok (.return_, 1) := by decide +kernel
theorem dX7_isKey_0 : decode cX7_isKey 0 = .ok (.iload_n 0, 1) := by decide +kernel
theorem dX7_isKey_1 : decode cX7_isKey 1 = .ok (.ifCond .lt 14, 3) := by decide +kernel
theorem dX7_isKey_4 : decode cX7_isKey 4 = .ok (.iload_n 0, 1) := by decide +kernel
theorem dX7_isKey_5 : decode cX7_isKey 5 = .ok (.sipush 9999, 3) := by decide +kernel
theorem dX7_isKey_8 : decode cX7_isKey 8 = .ok (.if_icmp .gt 7, 3) := by decide +kernel
theorem dX7_isKey_11 : decode cX7_isKey 11 = .ok (.iconst 1, 1) := by decide +kernel
theorem dX7_isKey_12 : decode cX7_isKey 12 = .ok (.goto 4, 3) := by decide +kernel
theorem dX7_isKey_15 : decode cX7_isKey 15 = .ok (.iconst 0, 1) := by decide +kernel
theorem dX7_isKey_16 : decode cX7_isKey 16 = .ok (.ireturn, 1) := by decide +kernel
theorem dX7_isValue_0 : decode cX7_isValue 0 = .ok (.iload_n 0, 1) := by decide +kernel
theorem dX7_isValue_1 : decode cX7_isValue 1 = .ok (.ifCond .lt 14, 3) := by decide +kernel
theorem dX7_isValue_4 : decode cX7_isValue 4 = .ok (.iload_n 0, 1) := by decide +kernel
theorem dX7_isValue_5 : decode cX7_isValue 5 = .ok (.sipush 999, 3) := by decide +kernel
theorem dX7_isValue_8 : decode cX7_isValue 8 = .ok (.if_icmp .gt 7, 3) := by decide +kernel
theorem dX7_isValue_11 : decode cX7_isValue 11 = .ok (.iconst 1, 1) := by decide +kernel
theorem dX7_isValue_12 : decode cX7_isValue 12 = .ok (.goto 4, 3) := by decide +kernel
theorem dX7_isValue_15 : decode cX7_isValue 15 = .ok (.iconst 0, 1) := by decide +kernel
theorem dX7_isValue_16 : decode cX7_isValue 16 = .ok (.ireturn, 1) := by decide +kernel
theorem dX7_isNear_0 : decode cX7_isNear 0 = .ok (.iload_n 0, 1) := by decide +kernel
theorem dX7_isNear_1 : decode cX7_isNear 1 = .ok (.iconst 2, 1) := by decide +kernel
theorem dX7_isNear_2 : decode cX7_isNear 2 = .ok (.if_icmp .lt 13, 3) := by decide +kernel
theorem dX7_isNear_5 : decode cX7_isNear 5 = .ok (.iload_n 0, 1) := by decide +kernel
theorem dX7_isNear_6 : decode cX7_isNear 6 = .ok (.bipush 6, 2) := by decide +kernel
theorem dX7_isNear_8 : decode cX7_isNear 8 = .ok (.if_icmp .gt 7, 3) := by decide +kernel
theorem dX7_isNear_11 : decode cX7_isNear 11 = .ok (.iconst 1, 1) := by decide +kernel
theorem dX7_isNear_12 : decode cX7_isNear 12 = .ok (.goto 4, 3) := by decide +kernel
theorem dX7_isNear_15 : decode cX7_isNear 15 = .ok (.iconst 0, 1) := by decide +kernel
theorem dX7_isNear_16 : decode cX7_isNear 16 = .ok (.ireturn, 1) := by decide +kernel
theorem dX7_isTimes_0 : decode cX7_isTimes 0 = .ok (.iload_n 0, 1) := by decide +kernel
theorem dX7_isTimes_1 : decode cX7_isTimes 1 = .ok (.iconst 1, 1) := by decide +kernel
theorem dX7_isTimes_2 : decode cX7_isTimes 2 = .ok (.if_icmp .lt 13, 3) := by decide +kernel
theorem dX7_isTimes_5 : decode cX7_isTimes 5 = .ok (.iload_n 0, 1) := by decide +kernel
theorem dX7_isTimes_6 : decode cX7_isTimes 6 = .ok (.bipush 99, 2) := by decide +kernel
theorem dX7_isTimes_8 : decode cX7_isTimes 8 = .ok (.if_icmp .gt 7, 3) := by decide +kernel
theorem dX7_isTimes_11 : decode cX7_isTimes 11 = .ok (.iconst 1, 1) := by decide +kernel
theorem dX7_isTimes_12 : decode cX7_isTimes 12 = .ok (.goto 4, 3) := by decide +kernel
theorem dX7_isTimes_15 : decode cX7_isTimes 15 = .ok (.iconst 0, 1) := by decide +kernel
theorem dX7_isTimes_16 : decode cX7_isTimes 16 = .ok (.ireturn, 1) := by decide +kernel
theorem dX7_tryToInsert_0 : decode cX7_tryToInsert 0 = .ok (.aload_n 0, 1) := by decide +kernel
theorem dX7_tryToInsert_1 : decode cX7_tryToInsert 1 = .ok (.getfield 28, 3) := by decide +kernel
theorem dX7_tryToInsert_4 : decode cX7_tryToInsert 4 = .ok (.iload_n 1, 1) := by decide +kernel
theorem dX7_tryToInsert_5 : decode cX7_tryToInsert 5 = .ok (.invokevirtual 124, 3) := by decide +kernel
theorem dX7_tryToInsert_8 : decode cX7_tryToInsert 8 = .ok (.iconst (-1), 1) := by decide +kernel
theorem dX7_tryToInsert_9 : decode cX7_tryToInsert 9 = .ok (.if_icmp .eq 5, 3) := by decide +kernel
theorem dX7_tryToInsert_12 : decode cX7_tryToInsert 12 = .ok (.iconst (-1), 1) := by decide +kernel
theorem dX7_tryToInsert_13 : decode cX7_tryToInsert 13 = .ok (.ireturn, 1) := by decide +kernel
theorem dX7_tryToInsert_14 : decode cX7_tryToInsert 14 = .ok (.aload_n 0, 1) := by decide +kernel
theorem dX7_tryToInsert_15 : decode cX7_tryToInsert 15 = .ok (.getfield 32, 3) := by decide +kernel
theorem dX7_tryToInsert_18 : decode cX7_tryToInsert 18 = .ok (.aload_n 0, 1) := by decide +kernel
theorem dX7_tryToInsert_19 : decode cX7_tryToInsert 19 = .ok (.getfield 28, 3) := by decide +kernel
theorem dX7_tryToInsert_22 : decode cX7_tryToInsert 22 = .ok (.invokevirtual 109, 3) := by decide +kernel
theorem dX7_tryToInsert_25 : decode cX7_tryToInsert 25 = .ok (.aload_n 0, 1) := by decide +kernel
theorem dX7_tryToInsert_26 : decode cX7_tryToInsert 26 = .ok (.getfield 32, 3) := by decide +kernel
theorem dX7_tryToInsert_29 : decode cX7_tryToInsert 29 = .ok (.iload_n 1, 1) := by decide +kernel
theorem dX7_tryToInsert_30 : decode cX7_tryToInsert 30 = .ok (.iconst 0, 1) := by decide +kernel
theorem dX7_tryToInsert_31 : decode cX7_tryToInsert 31 = .ok (.invokevirtual 60, 3) := by decide +kernel
theorem dX7_tryToInsert_34 : decode cX7_tryToInsert 34 = .ok (.ireturn, 1) := by decide +kernel
theorem dJ6_bitCount_0f7a4_0 : decode cJ6_bitCount_0f7a4 0 = .ok (.iload_n 0, 1) := by decide +kernel
theorem dJ6_bitCount_0f7a4_1 : decode cJ6_bitCount_0f7a4 1 = .ok (.iload_n 0, 1) := by decide +kernel
theorem dJ6_bitCount_0f7a4_2 : decode cJ6_bitCount_0f7a4 2 = .ok (.iconst 1, 1) := by decide +kernel
theorem dJ6_bitCount_0f7a4_3 : decode cJ6_bitCount_0f7a4 3 = .ok (.iushr, 1) := by decide +kernel
theorem dJ6_bitCount_0f7a4_4 : decode cJ6_bitCount_0f7a4 4 = .ok (.ldc_w 265, 3) := by decide +kernel
theorem dJ6_bitCount_0f7a4_7 : decode cJ6_bitCount_0f7a4 7 = .ok (.iand, 1) := by decide +kernel
theorem dJ6_bitCount_0f7a4_8 : decode cJ6_bitCount_0f7a4 8 = .ok (.isub, 1) := by decide +kernel
theorem dJ6_bitCount_0f7a4_9 : decode cJ6_bitCount_0f7a4 9 = .ok (.istore_n 0, 1) := by decide +kernel
theorem dJ6_bitCount_0f7a4_10 : decode cJ6_bitCount_0f7a4 10 = .ok (.iload_n 0, 1) := by decide +kernel
theorem dJ6_bitCount_0f7a4_11 : decode cJ6_bitCount_0f7a4 11 = .ok (.ldc_w 266, 3) := by decide +kernel
theorem dJ6_bitCount_0f7a4_14 : decode cJ6_bitCount_0f7a4 14 = .ok (.iand, 1) := by decide +kernel
theorem dJ6_bitCount_0f7a4_15 : decode cJ6_bitCount_0f7a4 15 = .ok (.iload_n 0, 1) := by decide +kernel
theorem dJ6_bitCount_0f7a4_16 : decode cJ6_bitCount_0f7a4 16 = .ok (.iconst 2, 1) := by decide +kernel
theorem dJ6_bitCount_0f7a4_17 : decode cJ6_bitCount_0f7a4 17 = .ok (.iushr, 1) := by decide +kernel
theorem dJ6_bitCount_0f7a4_18 : decode cJ6_bitCount_0f7a4 18 = .ok (.ldc_w 266, 3) := by decide +kernel
theorem dJ6_bitCount_0f7a4_21 : decode cJ6_bitCount_0f7a4 21 = .ok (.iand, 1) := by decide +kernel
theorem dJ6_bitCount_0f7a4_22 : decode cJ6_bitCount_0f7a4 22 = .ok (.iadd, 1) := by decide +kernel
theorem dJ6_bitCount_0f7a4_23 : decode cJ6_bitCount_0f7a4 23 = .ok (.istore_n 0, 1) := by decide +kernel
theorem dJ6_bitCount_0f7a4_24 : decode cJ6_bitCount_0f7a4 24 = .ok (.iload_n 0, 1) := by decide +kernel
theorem dJ6_bitCount_0f7a4_25 : decode cJ6_bitCount_0f7a4 25 = .ok (.iload_n 0, 1) := by decide +kernel
theorem dJ6_bitCount_0f7a4_26 : decode cJ6_bitCount_0f7a4 26 = .ok (.iconst 4, 1) := by decide +kernel
theorem dJ6_bitCount_0f7a4_27 : decode cJ6_bitCount_0f7a4 27 = .ok (.iushr, 1) := by decide +kernel
theorem dJ6_bitCount_0f7a4_28 : decode cJ6_bitCount_0f7a4 28 = .ok (.iadd, 1) := by decide +kernel
theorem dJ6_bitCount_0f7a4_29 : decode cJ6_bitCount_0f7a4 29 = .ok (.ldc_w 267, 3) := by decide +kernel
theorem dJ6_bitCount_0f7a4_32 : decode cJ6_bitCount_0f7a4 32 = .ok (.iand, 1) := by decide +kernel
theorem dJ6_bitCount_0f7a4_33 : decode cJ6_bitCount_0f7a4 33 = .ok (.istore_n 0, 1) := by decide +kernel
theorem dJ6_bitCount_0f7a4_34 : decode cJ6_bitCount_0f7a4 34 = .ok (.iload_n 0, 1) := by decide +kernel
theorem dJ6_bitCount_0f7a4_35 : decode cJ6_bitCount_0f7a4 35 = .ok (.iload_n 0, 1) := by decide +kernel
theorem dJ6_bitCount_0f7a4_36 : decode cJ6_bitCount_0f7a4 36 = .ok (.bipush 8, 2) := by decide +kernel
theorem dJ6_bitCount_0f7a4_38 : decode cJ6_bitCount_0f7a4 38 = .ok (.iushr, 1) := by decide +kernel
theorem dJ6_bitCount_0f7a4_39 : decode cJ6_bitCount_0f7a4 39 = .ok (.iadd, 1) := by decide +kernel
theorem dJ6_bitCount_0f7a4_40 : decode cJ6_bitCount_0f7a4 40 = .ok (.istore_n 0, 1) := by decide +kernel
theorem dJ6_bitCount_0f7a4_41 : decode cJ6_bitCount_0f7a4 41 = .ok (.iload_n 0, 1) := by decide +kernel
theorem dJ6_bitCount_0f7a4_42 : decode cJ6_bitCount_0f7a4 42 = .ok (.iload_n 0, 1) := by decide +kernel
theorem dJ6_bitCount_0f7a4_43 : decode cJ6_bitCount_0f7a4 43 = .ok (.bipush 16, 2) := by decide +kernel
theorem dJ6_bitCount_0f7a4_45 : decode cJ6_bitCount_0f7a4 45 = .ok (.iushr, 1) := by decide +kernel
theorem dJ6_bitCount_0f7a4_46 : decode cJ6_bitCount_0f7a4 46 = .ok (.iadd, 1) := by decide +kernel
theorem dJ6_bitCount_0f7a4_47 : decode cJ6_bitCount_0f7a4 47 = .ok (.istore_n 0, 1) := by decide +kernel
theorem dJ6_bitCount_0f7a4_48 : decode cJ6_bitCount_0f7a4 48 = .ok (.iload_n 0, 1) := by decide +kernel
theorem dJ6_bitCount_0f7a4_49 : decode cJ6_bitCount_0f7a4 49 = .ok (.bipush 63, 2) := by decide +kernel
theorem dJ6_bitCount_0f7a4_51 : decode cJ6_bitCount_0f7a4 51 = .ok (.iand, 1) := by decide +kernel
theorem dJ6_bitCount_0f7a4_52 : decode cJ6_bitCount_0f7a4 52 = .ok (.ireturn, 1) := by decide +kernel
theorem dJ9_abs_0f7a4_0 : decode cJ9_abs_0f7a4 0 = .ok (.iload_n 0, 1) := by decide +kernel
theorem dJ9_abs_0f7a4_1 : decode cJ9_abs_0f7a4 1 = .ok (.ifCond .ge 8, 3) := by decide +kernel
theorem dJ9_abs_0f7a4_4 : decode cJ9_abs_0f7a4 4 = .ok (.iload_n 0, 1) := by decide +kernel
theorem dJ9_abs_0f7a4_5 : decode cJ9_abs_0f7a4 5 = .ok (.ineg, 1) := by decide +kernel
theorem dJ9_abs_0f7a4_6 : decode cJ9_abs_0f7a4 6 = .ok (.goto 4, 3) := by decide +kernel
theorem dJ9_abs_0f7a4_9 : decode cJ9_abs_0f7a4 9 = .ok (.iload_n 0, 1) := by decide +kernel
theorem dJ9_abs_0f7a4_10 : decode cJ9_abs_0f7a4 10 = .ok (.ireturn, 1) := by decide +kernel
theorem dJ9_max_7cf53_0 : decode cJ9_max_7cf53 0 = .ok (.iload_n 0, 1) := by decide +kernel
theorem dJ9_max_7cf53_1 : decode cJ9_max_7cf53 1 = .ok (.iload_n 1, 1) := by decide +kernel
theorem dJ9_max_7cf53_2 : decode cJ9_max_7cf53 2 = .ok (.if_icmp .lt 7, 3) := by decide +kernel
theorem dJ9_max_7cf53_5 : decode cJ9_max_7cf53 5 = .ok (.iload_n 0, 1) := by decide +kernel
theorem dJ9_max_7cf53_6 : decode cJ9_max_7cf53 6 = .ok (.goto 4, 3) := by decide +kernel
theorem dJ9_max_7cf53_9 : decode cJ9_max_7cf53 9 = .ok (.iload_n 1, 1) := by decide +kernel
theorem dJ9_max_7cf53_10 : decode cJ9_max_7cf53 10 = .ok (.ireturn, 1) := by decide +kernel
theorem dJ9_min_7cf53_0 : decode cJ9_min_7cf53 0 = .ok (.iload_n 0, 1) := by decide +kernel
theorem dJ9_min_7cf53_1 : decode cJ9_min_7cf53 1 = .ok (.iload_n 1, 1) := by decide +kernel
theorem dJ9_min_7cf53_2 : decode cJ9_min_7cf53 2 = .ok (.if_icmp .gt 7, 3) := by decide +kernel
theorem dJ9_min_7cf53_5 : decode cJ9_min_7cf53 5 = .ok (.iload_n 0, 1) := by decide +kernel
theorem dJ9_min_7cf53_6 : decode cJ9_min_7cf53 6 = .ok (.goto 4, 3) := by decide +kernel
theorem dJ9_min_7cf53_9 : decode cJ9_min_7cf53 9 = .ok (.iload_n 1, 1) := by decide +kernel
theorem dJ9_min_7cf53_10 : decode cJ9_min_7cf53 10 = .ok (.ireturn, 1) := by decide +kernel
theorem dL_cell_0 : decode cL_cell 0 = .ok (.iload_n 1, 1) := by decide +kernel
theorem dL_cell_1 : decode cL_cell 1 = .ok (.aload_n 0, 1) := by decide +kernel
theorem dL_cell_2 : decode cL_cell 2 = .ok (.arraylength, 1) := by decide +kernel
theorem dL_cell_3 : decode cL_cell 3 = .ok (.if_icmp .ge 9, 3) := by decide +kernel
theorem dL_cell_6 : decode cL_cell 6 = .ok (.aload_n 0, 1) := by decide +kernel
theorem dL_cell_7 : decode cL_cell 7 = .ok (.iload_n 1, 1) := by decide +kernel
theorem dL_cell_8 : decode cL_cell 8 = .ok (.iaload, 1) := by decide +kernel
theorem dL_cell_9 : decode cL_cell 9 = .ok (.goto 4, 3) := by decide +kernel
theorem dL_cell_12 : decode cL_cell 12 = .ok (.iconst 0, 1) := by decide +kernel
theorem dL_cell_13 : decode cL_cell 13 = .ok (.ireturn, 1) := by decide +kernel
theorem dL_entry_0 : decode cL_entry 0 = .ok (.aload_n 0, 1) := by decide +kernel
theorem dL_entry_1 : decode cL_entry 1 = .ok (.invokevirtual 7, 3) := by decide +kernel
theorem dL_entry_4 : decode cL_entry 4 = .ok (.ifCond .ne 7, 3) := by decide +kernel
theorem dL_entry_7 : decode cL_entry 7 = .ok (.iconst (-1), 1) := by decide +kernel
theorem dL_entry_8 : decode cL_entry 8 = .ok (.goto 9, 3) := by decide +kernel
theorem dL_entry_11 : decode cL_entry 11 = .ok (.iload_n 1, 1) := by decide +kernel
theorem dL_entry_12 : decode cL_entry 12 = .ok (.aload_n 0, 1) := by decide +kernel
theorem dL_entry_13 : decode cL_entry 13 = .ok (.invokevirtual 7, 3) := by decide +kernel
theorem dL_entry_16 : decode cL_entry 16 = .ok (.irem, 1) := by decide +kernel
theorem dL_entry_17 : decode cL_entry 17 = .ok (.istore_n 2, 1) := by decide +kernel
theorem dL_entry_18 : decode cL_entry 18 = .ok (.iconst 0, 1) := by decide +kernel
theorem dL_entry_19 : decode cL_entry 19 = .ok (.istore_n 3, 1) := by decide +kernel
theorem dL_entry_20 : decode cL_entry 20 = .ok (.iload_n 3, 1) := by decide +kernel
theorem dL_entry_21 : decode cL_entry 21 = .ok (.aload_n 0, 1) := by decide +kernel
theorem dL_entry_22 : decode cL_entry 22 = .ok (.invokevirtual 13, 3) := by decide +kernel
theorem dL_entry_25 : decode cL_entry 25 = .ok (.if_icmp .ge 35, 3) := by decide +kernel
theorem dL_entry_28 : decode cL_entry 28 = .ok (.iload_n 2, 1) := by decide +kernel
theorem dL_entry_29 : decode cL_entry 29 = .ok (.ifCond .lt 31, 3) := by decide +kernel
theorem dL_entry_32 : decode cL_entry 32 = .ok (.aload_n 0, 1) := by decide +kernel
theorem dL_entry_33 : decode cL_entry 33 = .ok (.iload_n 3, 1) := by decide +kernel
theorem dL_entry_34 : decode cL_entry 34 = .ok (.invokevirtual 16, 3) := by decide +kernel
theorem dL_entry_37 : decode cL_entry 37 = .ok (.iconst (-1), 1) := by decide +kernel
theorem dL_entry_38 : decode cL_entry 38 = .ok (.if_icmp .eq 16, 3) := by decide +kernel
theorem dL_entry_41 : decode cL_entry 41 = .ok (.iload_n 2, 1) := by decide +kernel
theorem dL_entry_42 : decode cL_entry 42 = .ok (.iinc 2 (-1), 3) := by decide +kernel
theorem dL_entry_45 : decode cL_entry 45 = .ok (.ifCond .ne 9, 3) := by decide +kernel
theorem dL_entry_48 : decode cL_entry 48 = .ok (.aload_n 0, 1) := by decide +kernel
theorem dL_entry_49 : decode cL_entry 49 = .ok (.iload_n 3, 1) := by decide +kernel
theorem dL_entry_50 : decode cL_entry 50 = .ok (.invokevirtual 16, 3) := by decide +kernel
theorem dL_entry_53 : decode cL_entry 53 = .ok (.ireturn, 1) := by decide +kernel
theorem dL_entry_54 : decode cL_entry 54 = .ok (.iinc 3 1, 3) := by decide +kernel
theorem dL_entry_57 : decode cL_entry 57 = .ok (.goto (-37), 3) := by decide +kernel
theorem dL_entry_60 : decode cL_entry 60 = .ok (.iconst (-1), 1) := by decide +kernel
theorem dL_entry_61 : decode cL_entry 61 = .ok (.ireturn, 1) := by decide +kernel
theorem dL_deed_0 : decode cL_deed 0 = .ok (.iload_n 1, 1) := by decide +kernel
theorem dL_deed_1 : decode cL_deed 1 = .ok (.iconst 4, 1) := by decide +kernel
theorem dL_deed_2 : decode cL_deed 2 = .ok (.iushr, 1) := by decide +kernel
theorem dL_deed_3 : decode cL_deed 3 = .ok (.sipush 8191, 3) := by decide +kernel
theorem dL_deed_6 : decode cL_deed 6 = .ok (.iand, 1) := by decide +kernel
theorem dL_deed_7 : decode cL_deed 7 = .ok (.istore_n 2, 1) := by decide +kernel
theorem dL_deed_8 : decode cL_deed 8 = .ok (.iload_n 1, 1) := by decide +kernel
theorem dL_deed_9 : decode cL_deed 9 = .ok (.bipush 17, 2) := by decide +kernel
theorem dL_deed_11 : decode cL_deed 11 = .ok (.iushr, 1) := by decide +kernel
theorem dL_deed_12 : decode cL_deed 12 = .ok (.sipush 1023, 3) := by decide +kernel
theorem dL_deed_15 : decode cL_deed 15 = .ok (.iand, 1) := by decide +kernel
theorem dL_deed_16 : decode cL_deed 16 = .ok (.istore_n 3, 1) := by decide +kernel
theorem dL_deed_17 : decode cL_deed 17 = .ok (.iload_n 1, 1) := by decide +kernel
theorem dL_deed_18 : decode cL_deed 18 = .ok (.sipush 1024, 3) := by decide +kernel
theorem dL_deed_21 : decode cL_deed 21 = .ok (.iand, 1) := by decide +kernel
theorem dL_deed_22 : decode cL_deed 22 = .ok (.ifCond .ne 7, 3) := by decide +kernel
theorem dL_deed_25 : decode cL_deed 25 = .ok (.iload_n 2, 1) := by decide +kernel
theorem dL_deed_26 : decode cL_deed 26 = .ok (.goto 7, 3) := by decide +kernel
theorem dL_deed_29 : decode cL_deed 29 = .ok (.iload_n 2, 1) := by decide +kernel
theorem dL_deed_30 : decode cL_deed 30 = .ok (.bipush 100, 2) := by decide +kernel
theorem dL_deed_32 : decode cL_deed 32 = .ok (.irem, 1) := by decide +kernel
theorem dL_deed_33 : decode cL_deed 33 = .ok (.istore 4, 2) := by decide +kernel
theorem dL_deed_35 : decode cL_deed 35 = .ok (.aload_n 0, 1) := by decide +kernel
theorem dL_deed_36 : decode cL_deed 36 = .ok (.iload_n 2, 1) := by decide +kernel
theorem dL_deed_37 : decode cL_deed 37 = .ok (.invokestatic 20, 3) := by decide +kernel
theorem dL_deed_40 : decode cL_deed 40 = .ok (.istore 5, 2) := by decide +kernel
theorem dL_deed_42 : decode cL_deed 42 = .ok (.iload_n 1, 1) := by decide +kernel
theorem dL_deed_43 : decode cL_deed 43 = .ok (.bipush 15, 2) := by decide +kernel
theorem dL_deed_45 : decode cL_deed 45 = .ok (.iand, 1) := by decide +kernel
theorem dL_deed_46 : decode cL_deed 46 = .ok (.tableswitch 356 0 14 #[74, 74, 74, 74, 98, 123, 144, 210, 210, 210, 226, 252, 280, 300, 325], 74) := by decide +kernel
theorem dL_deed_120 : decode cL_deed 120 = .ok (.aload_n 0, 1) := by decide +kernel
theorem dL_deed_121 : decode cL_deed 121 = .ok (.iload 4, 2) := by decide +kernel
theorem dL_deed_123 : decode cL_deed 123 = .ok (.invokevirtual 26, 3) := by decide +kernel
theorem dL_deed_126 : decode cL_deed 126 = .ok (.ifCond .ne 298, 3) := by decide +kernel
theorem dL_deed_129 : decode cL_deed 129 = .ok (.aload_n 0, 1) := by decide +kernel
theorem dL_deed_130 : decode cL_deed 130 = .ok (.iload 4, 2) := by decide +kernel
theorem dL_deed_132 : decode cL_deed 132 = .ok (.iload_n 3, 1) := by decide +kernel
theorem dL_deed_133 : decode cL_deed 133 = .ok (.sipush 1000, 3) := by decide +kernel
theorem dL_deed_136 : decode cL_deed 136 = .ok (.irem, 1) := by decide +kernel
theorem dL_deed_137 : decode cL_deed 137 = .ok (.invokevirtual 29, 3) := by decide +kernel
theorem dL_deed_140 : decode cL_deed 140 = .ok (.pop, 1) := by decide +kernel
theorem dL_deed_141 : decode cL_deed 141 = .ok (.goto 283, 3) := by decide +kernel
theorem dL_deed_144 : decode cL_deed 144 = .ok (.aload_n 0, 1) := by decide +kernel
theorem dL_deed_145 : decode cL_deed 145 = .ok (.iload 4, 2) := by decide +kernel
theorem dL_deed_147 : decode cL_deed 147 = .ok (.invokevirtual 26, 3) := by decide +kernel
theorem dL_deed_150 : decode cL_deed 150 = .ok (.iconst 2, 1) := by decide +kernel
theorem dL_deed_151 : decode cL_deed 151 = .ok (.if_icmp .eq 273, 3) := by decide +kernel
theorem dL_deed_154 : decode cL_deed 154 = .ok (.aload_n 0, 1) := by decide +kernel
theorem dL_deed_155 : decode cL_deed 155 = .ok (.iload 4, 2) := by decide +kernel
theorem dL_deed_157 : decode cL_deed 157 = .ok (.iload_n 3, 1) := by decide +kernel
theorem dL_deed_158 : decode cL_deed 158 = .ok (.sipush 1000, 3) := by decide +kernel
theorem dL_deed_161 : decode cL_deed 161 = .ok (.irem, 1) := by decide +kernel
theorem dL_deed_162 : decode cL_deed 162 = .ok (.invokevirtual 33, 3) := by decide +kernel
theorem dL_deed_165 : decode cL_deed 165 = .ok (.pop, 1) := by decide +kernel
theorem dL_deed_166 : decode cL_deed 166 = .ok (.goto 258, 3) := by decide +kernel
theorem dL_deed_169 : decode cL_deed 169 = .ok (.iload 5, 2) := by decide +kernel
theorem dL_deed_171 : decode cL_deed 171 = .ok (.iconst (-1), 1) := by decide +kernel
theorem dL_deed_172 : decode cL_deed 172 = .ok (.if_icmp .eq 252, 3) := by decide +kernel
theorem dL_deed_175 : decode cL_deed 175 = .ok (.aload_n 0, 1) := by decide +kernel
theorem dL_deed_176 : decode cL_deed 176 = .ok (.iload 5, 2) := by decide +kernel
theorem dL_deed_178 : decode cL_deed 178 = .ok (.iload_n 3, 1) := by decide +kernel
theorem dL_deed_179 : decode cL_deed 179 = .ok (.sipush 1000, 3) := by decide +kernel
theorem dL_deed_182 : decode cL_deed 182 = .ok (.irem, 1) := by decide +kernel
theorem dL_deed_183 : decode cL_deed 183 = .ok (.invokevirtual 33, 3) := by decide +kernel
theorem dL_deed_186 : decode cL_deed 186 = .ok (.pop, 1) := by decide +kernel
theorem dL_deed_187 : decode cL_deed 187 = .ok (.goto 237, 3) := by decide +kernel
theorem dL_deed_190 : decode cL_deed 190 = .ok (.iconst 0, 1) := by decide +kernel
theorem dL_deed_191 : decode cL_deed 191 = .ok (.istore 6, 2) := by decide +kernel
theorem dL_deed_193 : decode cL_deed 193 = .ok (.iload 6, 2) := by decide +kernel
theorem dL_deed_195 : decode cL_deed 195 = .ok (.iconst 1, 1) := by decide +kernel
theorem dL_deed_196 : decode cL_deed 196 = .ok (.iload_n 3, 1) := by decide +kernel
theorem dL_deed_197 : decode cL_deed 197 = .ok (.bipush 6, 2) := by decide +kernel
theorem dL_deed_199 : decode cL_deed 199 = .ok (.irem, 1) := by decide +kernel
theorem dL_deed_200 : decode cL_deed 200 = .ok (.iadd, 1) := by decide +kernel
theorem dL_deed_201 : decode cL_deed 201 = .ok (.if_icmp .ge 52, 3) := by decide +kernel
theorem dL_deed_204 : decode cL_deed 204 = .ok (.iload 4, 2) := by decide +kernel
theorem dL_deed_206 : decode cL_deed 206 = .ok (.iload 6, 2) := by decide +kernel
theorem dL_deed_208 : decode cL_deed 208 = .ok (.aload_n 0, 1) := by decide +kernel
theorem dL_deed_209 : decode cL_deed 209 = .ok (.invokevirtual 13, 3) := by decide +kernel
theorem dL_deed_212 : decode cL_deed 212 = .ok (.imul, 1) := by decide +kernel
theorem dL_deed_213 : decode cL_deed 213 = .ok (.iadd, 1) := by decide +kernel
theorem dL_deed_214 : decode cL_deed 214 = .ok (.sipush 10000, 3) := by decide +kernel
theorem dL_deed_217 : decode cL_deed 217 = .ok (.irem, 1) := by decide +kernel
theorem dL_deed_218 : decode cL_deed 218 = .ok (.istore 7, 2) := by decide +kernel
theorem dL_deed_220 : decode cL_deed 220 = .ok (.aload_n 0, 1) := by decide +kernel
theorem dL_deed_221 : decode cL_deed 221 = .ok (.iload 7, 2) := by decide +kernel
theorem dL_deed_223 : decode cL_deed 223 = .ok (.invokevirtual 26, 3) := by decide +kernel
theorem dL_deed_226 : decode cL_deed 226 = .ok (.ifCond .ne 21, 3) := by decide +kernel
theorem dL_deed_229 : decode cL_deed 229 = .ok (.aload_n 0, 1) := by decide +kernel
theorem dL_deed_230 : decode cL_deed 230 = .ok (.invokevirtual 7, 3) := by decide +kernel
theorem dL_deed_233 : decode cL_deed 233 = .ok (.bipush 40, 2) := by decide +kernel
theorem dL_deed_235 : decode cL_deed 235 = .ok (.if_icmp .ge 12, 3) := by decide +kernel
theorem dL_deed_238 : decode cL_deed 238 = .ok (.aload_n 0, 1) := by decide +kernel
theorem dL_deed_239 : decode cL_deed 239 = .ok (.iload 7, 2) := by decide +kernel
theorem dL_deed_241 : decode cL_deed 241 = .ok (.iload 6, 2) := by decide +kernel
theorem dL_deed_243 : decode cL_deed 243 = .ok (.invokevirtual 29, 3) := by decide +kernel
theorem dL_deed_246 : decode cL_deed 246 = .ok (.pop, 1) := by decide +kernel
theorem dL_deed_247 : decode cL_deed 247 = .ok (.iinc 6 1, 3) := by decide +kernel
theorem dL_deed_250 : decode cL_deed 250 = .ok (.goto (-57), 3) := by decide +kernel
theorem dL_deed_253 : decode cL_deed 253 = .ok (.goto 171, 3) := by decide +kernel
theorem dL_deed_256 : decode cL_deed 256 = .ok (.iload 5, 2) := by decide +kernel
theorem dL_deed_258 : decode cL_deed 258 = .ok (.iconst (-1), 1) := by decide +kernel
theorem dL_deed_259 : decode cL_deed 259 = .ok (.if_icmp .eq 165, 3) := by decide +kernel
theorem dL_deed_262 : decode cL_deed 262 = .ok (.aload_n 0, 1) := by decide +kernel
theorem dL_deed_263 : decode cL_deed 263 = .ok (.iload 5, 2) := by decide +kernel
theorem dL_deed_265 : decode cL_deed 265 = .ok (.invokevirtual 36, 3) := by decide +kernel
theorem dL_deed_268 : decode cL_deed 268 = .ok (.pop, 1) := by decide +kernel
theorem dL_deed_269 : decode cL_deed 269 = .ok (.goto 155, 3) := by decide +kernel
theorem dL_deed_272 : decode cL_deed 272 = .ok (.aload_n 0, 1) := by decide +kernel
theorem dL_deed_273 : decode cL_deed 273 = .ok (.iconst 2, 1) := by decide +kernel
theorem dL_deed_274 : decode cL_deed 274 = .ok (.iload_n 2, 1) := by decide +kernel
theorem dL_deed_275 : decode cL_deed 275 = .ok (.iconst 5, 1) := by decide +kernel
theorem dL_deed_276 : decode cL_deed 276 = .ok (.irem, 1) := by decide +kernel
theorem dL_deed_277 : decode cL_deed 277 = .ok (.iadd, 1) := by decide +kernel
theorem dL_deed_278 : decode cL_deed 278 = .ok (.invokevirtual 39, 3) := by decide +kernel
theorem dL_deed_281 : decode cL_deed 281 = .ok (.iconst (-1), 1) := by decide +kernel
theorem dL_deed_282 : decode cL_deed 282 = .ok (.if_icmp .eq 142, 3) := by decide +kernel
theorem dL_deed_285 : decode cL_deed 285 = .ok (.aload_n 0, 1) := by decide +kernel
theorem dL_deed_286 : decode cL_deed 286 = .ok (.iconst 2, 1) := by decide +kernel
theorem dL_deed_287 : decode cL_deed 287 = .ok (.iload_n 2, 1) := by decide +kernel
theorem dL_deed_288 : decode cL_deed 288 = .ok (.iconst 5, 1) := by decide +kernel
theorem dL_deed_289 : decode cL_deed 289 = .ok (.irem, 1) := by decide +kernel
theorem dL_deed_290 : decode cL_deed 290 = .ok (.iadd, 1) := by decide +kernel
theorem dL_deed_291 : decode cL_deed 291 = .ok (.invokevirtual 42, 3) := by decide +kernel
theorem dL_deed_294 : decode cL_deed 294 = .ok (.pop, 1) := by decide +kernel
theorem dL_deed_295 : decode cL_deed 295 = .ok (.goto 129, 3) := by decide +kernel
theorem dL_deed_298 : decode cL_deed 298 = .ok (.aload_n 0, 1) := by decide +kernel
theorem dL_deed_299 : decode cL_deed 299 = .ok (.iconst 1, 1) := by decide +kernel
theorem dL_deed_300 : decode cL_deed 300 = .ok (.iload_n 2, 1) := by decide +kernel
theorem dL_deed_301 : decode cL_deed 301 = .ok (.bipush 9, 2) := by decide +kernel
theorem dL_deed_303 : decode cL_deed 303 = .ok (.irem, 1) := by decide +kernel
theorem dL_deed_304 : decode cL_deed 304 = .ok (.iadd, 1) := by decide +kernel
theorem dL_deed_305 : decode cL_deed 305 = .ok (.invokevirtual 45, 3) := by decide +kernel
theorem dL_deed_308 : decode cL_deed 308 = .ok (.istore 6, 2) := by decide +kernel
theorem dL_deed_310 : decode cL_deed 310 = .ok (.iload 6, 2) := by decide +kernel
theorem dL_deed_312 : decode cL_deed 312 = .ok (.iconst (-1), 1) := by decide +kernel
theorem dL_deed_313 : decode cL_deed 313 = .ok (.if_icmp .eq 111, 3) := by decide +kernel
theorem dL_deed_316 : decode cL_deed 316 = .ok (.aload_n 0, 1) := by decide +kernel
theorem dL_deed_317 : decode cL_deed 317 = .ok (.iload 6, 2) := by decide +kernel
theorem dL_deed_319 : decode cL_deed 319 = .ok (.invokevirtual 48, 3) := by decide +kernel
theorem dL_deed_322 : decode cL_deed 322 = .ok (.pop, 1) := by decide +kernel
theorem dL_deed_323 : decode cL_deed 323 = .ok (.goto 101, 3) := by decide +kernel
theorem dL_deed_326 : decode cL_deed 326 = .ok (.aload_n 0, 1) := by decide +kernel
theorem dL_deed_327 : decode cL_deed 327 = .ok (.iload_n 2, 1) := by decide +kernel
theorem dL_deed_328 : decode cL_deed 328 = .ok (.iconst 1, 1) := by decide +kernel
theorem dL_deed_329 : decode cL_deed 329 = .ok (.iand, 1) := by decide +kernel
theorem dL_deed_330 : decode cL_deed 330 = .ok (.iconst 1, 1) := by decide +kernel
theorem dL_deed_331 : decode cL_deed 331 = .ok (.if_icmp .ne 7, 3) := by decide +kernel
theorem dL_deed_334 : decode cL_deed 334 = .ok (.iconst 1, 1) := by decide +kernel
theorem dL_deed_335 : decode cL_deed 335 = .ok (.goto 4, 3) := by decide +kernel
theorem dL_deed_338 : decode cL_deed 338 = .ok (.iconst 0, 1) := by decide +kernel
theorem dL_deed_339 : decode cL_deed 339 = .ok (.invokevirtual 51, 3) := by decide +kernel
theorem dL_deed_342 : decode cL_deed 342 = .ok (.pop, 1) := by decide +kernel
theorem dL_deed_343 : decode cL_deed 343 = .ok (.goto 81, 3) := by decide +kernel
theorem dL_deed_346 : decode cL_deed 346 = .ok (.aload_n 0, 1) := by decide +kernel
theorem dL_deed_347 : decode cL_deed 347 = .ok (.invokevirtual 13, 3) := by decide +kernel
theorem dL_deed_350 : decode cL_deed 350 = .ok (.bipush 32, 2) := by decide +kernel
theorem dL_deed_352 : decode cL_deed 352 = .ok (.if_icmp .ge 72, 3) := by decide +kernel
theorem dL_deed_355 : decode cL_deed 355 = .ok (.aload_n 0, 1) := by decide +kernel
theorem dL_deed_356 : decode cL_deed 356 = .ok (.invokevirtual 7, 3) := by decide +kernel
theorem dL_deed_359 : decode cL_deed 359 = .ok (.iconst 3, 1) := by decide +kernel
theorem dL_deed_360 : decode cL_deed 360 = .ok (.if_icmp .ge 64, 3) := by decide +kernel
theorem dL_deed_363 : decode cL_deed 363 = .ok (.aload_n 0, 1) := by decide +kernel
theorem dL_deed_364 : decode cL_deed 364 = .ok (.invokevirtual 55, 3) := by decide +kernel
theorem dL_deed_367 : decode cL_deed 367 = .ok (.pop, 1) := by decide +kernel
theorem dL_deed_368 : decode cL_deed 368 = .ok (.goto 56, 3) := by decide +kernel
theorem dL_deed_371 : decode cL_deed 371 = .ok (.iload_n 2, 1) := by decide +kernel
theorem dL_deed_372 : decode cL_deed 372 = .ok (.bipush 7, 2) := by decide +kernel
theorem dL_deed_374 : decode cL_deed 374 = .ok (.iand, 1) := by decide +kernel
theorem dL_deed_375 : decode cL_deed 375 = .ok (.ifCond .ne 11, 3) := by decide +kernel
theorem dL_deed_378 : decode cL_deed 378 = .ok (.aload_n 0, 1) := by decide +kernel
theorem dL_deed_379 : decode cL_deed 379 = .ok (.invokevirtual 58, 3) := by decide +kernel
theorem dL_deed_382 : decode cL_deed 382 = .ok (.pop, 1) := by decide +kernel
theorem dL_deed_383 : decode cL_deed 383 = .ok (.goto 41, 3) := by decide +kernel
theorem dL_deed_386 : decode cL_deed 386 = .ok (.iload 5, 2) := by decide +kernel
theorem dL_deed_388 : decode cL_deed 388 = .ok (.iconst (-1), 1) := by decide +kernel
theorem dL_deed_389 : decode cL_deed 389 = .ok (.if_icmp .eq 35, 3) := by decide +kernel
theorem dL_deed_392 : decode cL_deed 392 = .ok (.aload_n 0, 1) := by decide +kernel
theorem dL_deed_393 : decode cL_deed 393 = .ok (.iload 5, 2) := by decide +kernel
theorem dL_deed_395 : decode cL_deed 395 = .ok (.invokevirtual 36, 3) := by decide +kernel
theorem dL_deed_398 : decode cL_deed 398 = .ok (.pop, 1) := by decide +kernel
theorem dL_deed_399 : decode cL_deed 399 = .ok (.goto 25, 3) := by decide +kernel
theorem dL_deed_402 : decode cL_deed 402 = .ok (.aload_n 0, 1) := by decide +kernel
theorem dL_deed_403 : decode cL_deed 403 = .ok (.iload_n 2, 1) := by decide +kernel
theorem dL_deed_404 : decode cL_deed 404 = .ok (.bipush 50, 2) := by decide +kernel
theorem dL_deed_406 : decode cL_deed 406 = .ok (.irem, 1) := by decide +kernel
theorem dL_deed_407 : decode cL_deed 407 = .ok (.invokevirtual 26, 3) := by decide +kernel
theorem dL_deed_410 : decode cL_deed 410 = .ok (.ifCond .ne 14, 3) := by decide +kernel
theorem dL_deed_413 : decode cL_deed 413 = .ok (.aload_n 0, 1) := by decide +kernel
theorem dL_deed_414 : decode cL_deed 414 = .ok (.iload_n 2, 1) := by decide +kernel
theorem dL_deed_415 : decode cL_deed 415 = .ok (.bipush 50, 2) := by decide +kernel
theorem dL_deed_417 : decode cL_deed 417 = .ok (.irem, 1) := by decide +kernel
theorem dL_deed_418 : decode cL_deed 418 = .ok (.bipush 7, 2) := by decide +kernel
theorem dL_deed_420 : decode cL_deed 420 = .ok (.invokevirtual 29, 3) := by decide +kernel
theorem dL_deed_423 : decode cL_deed 423 = .ok (.pop, 1) := by decide +kernel
theorem dL_deed_424 : decode cL_deed 424 = .ok (.return_, 1) := by decide +kernel
theorem dL_holds_0 : decode cL_holds 0 = .ok (.aload_n 0, 1) := by decide +kernel
theorem dL_holds_1 : decode cL_holds 1 = .ok (.invokevirtual 13, 3) := by decide +kernel
theorem dL_holds_4 : decode cL_holds 4 = .ok (.istore_n 1, 1) := by decide +kernel
theorem dL_holds_5 : decode cL_holds 5 = .ok (.aload_n 0, 1) := by decide +kernel
theorem dL_holds_6 : decode cL_holds 6 = .ok (.invokevirtual 61, 3) := by decide +kernel
theorem dL_holds_9 : decode cL_holds 9 = .ok (.istore_n 2, 1) := by decide +kernel
theorem dL_holds_10 : decode cL_holds 10 = .ok (.iconst 0, 1) := by decide +kernel
theorem dL_holds_11 : decode cL_holds 11 = .ok (.istore_n 3, 1) := by decide +kernel
theorem dL_holds_12 : decode cL_holds 12 = .ok (.iconst 0, 1) := by decide +kernel
theorem dL_holds_13 : decode cL_holds 13 = .ok (.istore 4, 2) := by decide +kernel
theorem dL_holds_15 : decode cL_holds 15 = .ok (.aload_n 0, 1) := by decide +kernel
theorem dL_holds_16 : decode cL_holds 16 = .ok (.invokevirtual 64, 3) := by decide +kernel
theorem dL_holds_19 : decode cL_holds 19 = .ok (.ifCond .ne 38, 3) := by decide +kernel
theorem dL_holds_22 : decode cL_holds 22 = .ok (.iload_n 1, 1) := by decide +kernel
theorem dL_holds_23 : decode cL_holds 23 = .ok (.bipush 8, 2) := by decide +kernel
theorem dL_holds_25 : decode cL_holds 25 = .ok (.if_icmp .eq 21, 3) := by decide +kernel
theorem dL_holds_28 : decode cL_holds 28 = .ok (.iload_n 1, 1) := by decide +kernel
theorem dL_holds_29 : decode cL_holds 29 = .ok (.bipush 16, 2) := by decide +kernel
theorem dL_holds_31 : decode cL_holds 31 = .ok (.if_icmp .eq 15, 3) := by decide +kernel
theorem dL_holds_34 : decode cL_holds 34 = .ok (.iload_n 1, 1) := by decide +kernel
theorem dL_holds_35 : decode cL_holds 35 = .ok (.bipush 32, 2) := by decide +kernel
theorem dL_holds_37 : decode cL_holds 37 = .ok (.if_icmp .eq 9, 3) := by decide +kernel
theorem dL_holds_40 : decode cL_holds 40 = .ok (.iload_n 1, 1) := by decide +kernel
theorem dL_holds_41 : decode cL_holds 41 = .ok (.bipush 64, 2) := by decide +kernel
theorem dL_holds_43 : decode cL_holds 43 = .ok (.if_icmp .ne 14, 3) := by decide +kernel
theorem dL_holds_46 : decode cL_holds 46 = .ok (.iload_n 2, 1) := by decide +kernel
theorem dL_holds_47 : decode cL_holds 47 = .ok (.iconst 2, 1) := by decide +kernel
theorem dL_holds_48 : decode cL_holds 48 = .ok (.if_icmp .lt 9, 3) := by decide +kernel
theorem dL_holds_51 : decode cL_holds 51 = .ok (.iload_n 2, 1) := by decide +kernel
theorem dL_holds_52 : decode cL_holds 52 = .ok (.bipush 6, 2) := by decide +kernel
theorem dL_holds_54 : decode cL_holds 54 = .ok (.if_icmp .le 5, 3) := by decide +kernel
theorem dL_holds_57 : decode cL_holds 57 = .ok (.iconst 0, 1) := by decide +kernel
theorem dL_holds_58 : decode cL_holds 58 = .ok (.ireturn, 1) := by decide +kernel
theorem dL_holds_59 : decode cL_holds 59 = .ok (.iconst 0, 1) := by decide +kernel
theorem dL_holds_60 : decode cL_holds 60 = .ok (.istore 5, 2) := by decide +kernel
theorem dL_holds_62 : decode cL_holds 62 = .ok (.iload 5, 2) := by decide +kernel
theorem dL_holds_64 : decode cL_holds 64 = .ok (.iload_n 1, 1) := by decide +kernel
theorem dL_holds_65 : decode cL_holds 65 = .ok (.if_icmp .ge 232, 3) := by decide +kernel
theorem dL_holds_68 : decode cL_holds 68 = .ok (.iconst 0, 1) := by decide +kernel
theorem dL_holds_69 : decode cL_holds 69 = .ok (.istore 6, 2) := by decide +kernel
theorem dL_holds_71 : decode cL_holds 71 = .ok (.iconst 0, 1) := by decide +kernel
theorem dL_holds_72 : decode cL_holds 72 = .ok (.istore 7, 2) := by decide +kernel
theorem dL_holds_74 : decode cL_holds 74 = .ok (.iconst 0, 1) := by decide +kernel
theorem dL_holds_75 : decode cL_holds 75 = .ok (.istore 8, 2) := by decide +kernel
theorem dL_holds_77 : decode cL_holds 77 = .ok (.iload 8, 2) := by decide +kernel
theorem dL_holds_79 : decode cL_holds 79 = .ok (.iload_n 2, 1) := by decide +kernel
theorem dL_holds_80 : decode cL_holds 80 = .ok (.if_icmp .ge 51, 3) := by decide +kernel
theorem dL_holds_83 : decode cL_holds 83 = .ok (.aload_n 0, 1) := by decide +kernel
theorem dL_holds_84 : decode cL_holds 84 = .ok (.iload 5, 2) := by decide +kernel
theorem dL_holds_86 : decode cL_holds 86 = .ok (.iload 8, 2) := by decide +kernel
theorem dL_holds_88 : decode cL_holds 88 = .ok (.iadd, 1) := by decide +kernel
theorem dL_holds_89 : decode cL_holds 89 = .ok (.iload_n 1, 1) := by decide +kernel
theorem dL_holds_90 : decode cL_holds 90 = .ok (.irem, 1) := by decide +kernel
theorem dL_holds_91 : decode cL_holds 91 = .ok (.invokevirtual 16, 3) := by decide +kernel
theorem dL_holds_94 : decode cL_holds 94 = .ok (.istore 9, 2) := by decide +kernel
theorem dL_holds_96 : decode cL_holds 96 = .ok (.iload 9, 2) := by decide +kernel
theorem dL_holds_98 : decode cL_holds 98 = .ok (.iconst (-1), 1) := by decide +kernel
theorem dL_holds_99 : decode cL_holds 99 = .ok (.if_icmp .eq 26, 3) := by decide +kernel
theorem dL_holds_102 : decode cL_holds 102 = .ok (.aload_n 0, 1) := by decide +kernel
theorem dL_holds_103 : decode cL_holds 103 = .ok (.iload 9, 2) := by decide +kernel
theorem dL_holds_105 : decode cL_holds 105 = .ok (.invokevirtual 67, 3) := by decide +kernel
theorem dL_holds_108 : decode cL_holds 108 = .ok (.iload 5, 2) := by decide +kernel
theorem dL_holds_110 : decode cL_holds 110 = .ok (.if_icmp .ne 15, 3) := by decide +kernel
theorem dL_holds_113 : decode cL_holds 113 = .ok (.iload 6, 2) := by decide +kernel
theorem dL_holds_115 : decode cL_holds 115 = .ok (.iconst 1, 1) := by decide +kernel
theorem dL_holds_116 : decode cL_holds 116 = .ok (.iload 8, 2) := by decide +kernel
theorem dL_holds_118 : decode cL_holds 118 = .ok (.ishl, 1) := by decide +kernel
theorem dL_holds_119 : decode cL_holds 119 = .ok (.ior, 1) := by decide +kernel
theorem dL_holds_120 : decode cL_holds 120 = .ok (.istore 6, 2) := by decide +kernel
theorem dL_holds_122 : decode cL_holds 122 = .ok (.iinc 7 1, 3) := by decide +kernel
theorem dL_holds_125 : decode cL_holds 125 = .ok (.iinc 8 1, 3) := by decide +kernel
theorem dL_holds_128 : decode cL_holds 128 = .ok (.goto (-51), 3) := by decide +kernel
theorem dL_holds_131 : decode cL_holds 131 = .ok (.aload_n 0, 1) := by decide +kernel
theorem dL_holds_132 : decode cL_holds 132 = .ok (.iload 5, 2) := by decide +kernel
theorem dL_holds_134 : decode cL_holds 134 = .ok (.invokevirtual 70, 3) := by decide +kernel
theorem dL_holds_137 : decode cL_holds 137 = .ok (.iload 6, 2) := by decide +kernel
theorem dL_holds_139 : decode cL_holds 139 = .ok (.if_icmp .ne 14, 3) := by decide +kernel
theorem dL_holds_142 : decode cL_holds 142 = .ok (.aload_n 0, 1) := by decide +kernel
theorem dL_holds_143 : decode cL_holds 143 = .ok (.iload 5, 2) := by decide +kernel
theorem dL_holds_145 : decode cL_holds 145 = .ok (.invokevirtual 73, 3) := by decide +kernel
theorem dL_holds_148 : decode cL_holds 148 = .ok (.iload 7, 2) := by decide +kernel
theorem dL_holds_150 : decode cL_holds 150 = .ok (.if_icmp .eq 5, 3) := by decide +kernel
theorem dL_holds_153 : decode cL_holds 153 = .ok (.iconst 0, 1) := by decide +kernel
theorem dL_holds_154 : decode cL_holds 154 = .ok (.ireturn, 1) := by decide +kernel
theorem dL_holds_155 : decode cL_holds 155 = .ok (.aload_n 0, 1) := by decide +kernel
theorem dL_holds_156 : decode cL_holds 156 = .ok (.iload 5, 2) := by decide +kernel
theorem dL_holds_158 : decode cL_holds 158 = .ok (.invokevirtual 16, 3) := by decide +kernel
theorem dL_holds_161 : decode cL_holds 161 = .ok (.istore 8, 2) := by decide +kernel
theorem dL_holds_163 : decode cL_holds 163 = .ok (.iload 8, 2) := by decide +kernel
theorem dL_holds_165 : decode cL_holds 165 = .ok (.iconst (-1), 1) := by decide +kernel
theorem dL_holds_166 : decode cL_holds 166 = .ok (.if_icmp .ne 7, 3) := by decide +kernel
theorem dL_holds_169 : decode cL_holds 169 = .ok (.iconst 1, 1) := by decide +kernel
theorem dL_holds_170 : decode cL_holds 170 = .ok (.goto 4, 3) := by decide +kernel
theorem dL_holds_173 : decode cL_holds 173 = .ok (.iconst 0, 1) := by decide +kernel
theorem dL_holds_174 : decode cL_holds 174 = .ok (.aload_n 0, 1) := by decide +kernel
theorem dL_holds_175 : decode cL_holds 175 = .ok (.iload 5, 2) := by decide +kernel
theorem dL_holds_177 : decode cL_holds 177 = .ok (.invokevirtual 76, 3) := by decide +kernel
theorem dL_holds_180 : decode cL_holds 180 = .ok (.iconst (-1), 1) := by decide +kernel
theorem dL_holds_181 : decode cL_holds 181 = .ok (.if_icmp .ne 7, 3) := by decide +kernel
theorem dL_holds_184 : decode cL_holds 184 = .ok (.iconst 1, 1) := by decide +kernel
theorem dL_holds_185 : decode cL_holds 185 = .ok (.goto 4, 3) := by decide +kernel
theorem dL_holds_188 : decode cL_holds 188 = .ok (.iconst 0, 1) := by decide +kernel
theorem dL_holds_189 : decode cL_holds 189 = .ok (.if_icmp .eq 5, 3) := by decide +kernel
theorem dL_holds_192 : decode cL_holds 192 = .ok (.iconst 0, 1) := by decide +kernel
theorem dL_holds_193 : decode cL_holds 193 = .ok (.ireturn, 1) := by decide +kernel
theorem dL_holds_194 : decode cL_holds 194 = .ok (.iload 8, 2) := by decide +kernel
theorem dL_holds_196 : decode cL_holds 196 = .ok (.iconst (-1), 1) := by decide +kernel
theorem dL_holds_197 : decode cL_holds 197 = .ok (.if_icmp .ne 6, 3) := by decide +kernel
theorem dL_holds_200 : decode cL_holds 200 = .ok (.goto 91, 3) := by decide +kernel
theorem dL_holds_203 : decode cL_holds 203 = .ok (.iload 5, 2) := by decide +kernel
theorem dL_holds_205 : decode cL_holds 205 = .ok (.aload_n 0, 1) := by decide +kernel
theorem dL_holds_206 : decode cL_holds 206 = .ok (.iload 8, 2) := by decide +kernel
theorem dL_holds_208 : decode cL_holds 208 = .ok (.invokevirtual 67, 3) := by decide +kernel
theorem dL_holds_211 : decode cL_holds 211 = .ok (.isub, 1) := by decide +kernel
theorem dL_holds_212 : decode cL_holds 212 = .ok (.iload_n 1, 1) := by decide +kernel
theorem dL_holds_213 : decode cL_holds 213 = .ok (.iadd, 1) := by decide +kernel
theorem dL_holds_214 : decode cL_holds 214 = .ok (.iload_n 1, 1) := by decide +kernel
theorem dL_holds_215 : decode cL_holds 215 = .ok (.irem, 1) := by decide +kernel
theorem dL_holds_216 : decode cL_holds 216 = .ok (.istore 9, 2) := by decide +kernel
theorem dL_holds_218 : decode cL_holds 218 = .ok (.iload 9, 2) := by decide +kernel
theorem dL_holds_220 : decode cL_holds 220 = .ok (.iload_n 2, 1) := by decide +kernel
theorem dL_holds_221 : decode cL_holds 221 = .ok (.if_icmp .ge 58, 3) := by decide +kernel
theorem dL_holds_224 : decode cL_holds 224 = .ok (.aload_n 0, 1) := by decide +kernel
theorem dL_holds_225 : decode cL_holds 225 = .ok (.iload 8, 2) := by decide +kernel
theorem dL_holds_227 : decode cL_holds 227 = .ok (.invokevirtual 79, 3) := by decide +kernel
theorem dL_holds_230 : decode cL_holds 230 = .ok (.iload 9, 2) := by decide +kernel
theorem dL_holds_232 : decode cL_holds 232 = .ok (.if_icmp .ne 47, 3) := by decide +kernel
theorem dL_holds_235 : decode cL_holds 235 = .ok (.aload_n 0, 1) := by decide +kernel
theorem dL_holds_236 : decode cL_holds 236 = .ok (.iload 8, 2) := by decide +kernel
theorem dL_holds_238 : decode cL_holds 238 = .ok (.invokevirtual 82, 3) := by decide +kernel
theorem dL_holds_241 : decode cL_holds 241 = .ok (.iload 5, 2) := by decide +kernel
theorem dL_holds_243 : decode cL_holds 243 = .ok (.if_icmp .ne 36, 3) := by decide +kernel
theorem dL_holds_246 : decode cL_holds 246 = .ok (.aload_n 0, 1) := by decide +kernel
theorem dL_holds_247 : decode cL_holds 247 = .ok (.iload 8, 2) := by decide +kernel
theorem dL_holds_249 : decode cL_holds 249 = .ok (.invokevirtual 85, 3) := by decide +kernel
theorem dL_holds_252 : decode cL_holds 252 = .ok (.aload_n 0, 1) := by decide +kernel
theorem dL_holds_253 : decode cL_holds 253 = .ok (.iload 5, 2) := by decide +kernel
theorem dL_holds_255 : decode cL_holds 255 = .ok (.invokevirtual 76, 3) := by decide +kernel
theorem dL_holds_258 : decode cL_holds 258 = .ok (.if_icmp .ne 21, 3) := by decide +kernel
theorem dL_holds_261 : decode cL_holds 261 = .ok (.aload_n 0, 1) := by decide +kernel
theorem dL_holds_262 : decode cL_holds 262 = .ok (.aload_n 0, 1) := by decide +kernel
theorem dL_holds_263 : decode cL_holds 263 = .ok (.iload 8, 2) := by decide +kernel
theorem dL_holds_265 : decode cL_holds 265 = .ok (.invokevirtual 67, 3) := by decide +kernel
theorem dL_holds_268 : decode cL_holds 268 = .ok (.invokevirtual 70, 3) := by decide +kernel
theorem dL_holds_271 : decode cL_holds 271 = .ok (.iload 9, 2) := by decide +kernel
theorem dL_holds_273 : decode cL_holds 273 = .ok (.ishr, 1) := by decide +kernel
theorem dL_holds_274 : decode cL_holds 274 = .ok (.iconst 1, 1) := by decide +kernel
theorem dL_holds_275 : decode cL_holds 275 = .ok (.iand, 1) := by decide +kernel
theorem dL_holds_276 : decode cL_holds 276 = .ok (.ifCond .ne 5, 3) := by decide +kernel
theorem dL_holds_279 : decode cL_holds 279 = .ok (.iconst 0, 1) := by decide +kernel
theorem dL_holds_280 : decode cL_holds 280 = .ok (.ireturn, 1) := by decide +kernel
theorem dL_holds_281 : decode cL_holds 281 = .ok (.iinc 3 1, 3) := by decide +kernel
theorem dL_holds_284 : decode cL_holds 284 = .ok (.iload 4, 2) := by decide +kernel
theorem dL_holds_286 : decode cL_holds 286 = .ok (.iload 9, 2) := by decide +kernel
theorem dL_holds_288 : decode cL_holds 288 = .ok (.iadd, 1) := by decide +kernel
theorem dL_holds_289 : decode cL_holds 289 = .ok (.istore 4, 2) := by decide +kernel
theorem dL_holds_291 : decode cL_holds 291 = .ok (.iinc 5 1, 3) := by decide +kernel
theorem dL_holds_294 : decode cL_holds 294 = .ok (.goto (-232), 3) := by decide +kernel
theorem dL_holds_297 : decode cL_holds 297 = .ok (.aload_n 0, 1) := by decide +kernel
theorem dL_holds_298 : decode cL_holds 298 = .ok (.invokevirtual 7, 3) := by decide +kernel
theorem dL_holds_301 : decode cL_holds 301 = .ok (.iload_n 3, 1) := by decide +kernel
theorem dL_holds_302 : decode cL_holds 302 = .ok (.if_icmp .ne 37, 3) := by decide +kernel
theorem dL_holds_305 : decode cL_holds 305 = .ok (.aload_n 0, 1) := by decide +kernel
theorem dL_holds_306 : decode cL_holds 306 = .ok (.invokevirtual 88, 3) := by decide +kernel
theorem dL_holds_309 : decode cL_holds 309 = .ok (.iload 4, 2) := by decide +kernel
theorem dL_holds_311 : decode cL_holds 311 = .ok (.if_icmp .ne 28, 3) := by decide +kernel
theorem dL_holds_314 : decode cL_holds 314 = .ok (.aload_n 0, 1) := by decide +kernel
theorem dL_holds_315 : decode cL_holds 315 = .ok (.invokevirtual 91, 3) := by decide +kernel
theorem dL_holds_318 : decode cL_holds 318 = .ok (.aload_n 0, 1) := by decide +kernel
theorem dL_holds_319 : decode cL_holds 319 = .ok (.invokevirtual 94, 3) := by decide +kernel
theorem dL_holds_322 : decode cL_holds 322 = .ok (.iload_n 3, 1) := by decide +kernel
theorem dL_holds_323 : decode cL_holds 323 = .ok (.iadd, 1) := by decide +kernel
theorem dL_holds_324 : decode cL_holds 324 = .ok (.if_icmp .ne 15, 3) := by decide +kernel
theorem dL_holds_327 : decode cL_holds 327 = .ok (.aload_n 0, 1) := by decide +kernel
theorem dL_holds_328 : decode cL_holds 328 = .ok (.invokevirtual 97, 3) := by decide +kernel
theorem dL_holds_331 : decode cL_holds 331 = .ok (.iload_n 2, 1) := by decide +kernel
theorem dL_holds_332 : decode cL_holds 332 = .ok (.if_icmp .ge 7, 3) := by decide +kernel
theorem dL_holds_335 : decode cL_holds 335 = .ok (.iconst 1, 1) := by decide +kernel
theorem dL_holds_336 : decode cL_holds 336 = .ok (.goto 4, 3) := by decide +kernel
theorem dL_holds_339 : decode cL_holds 339 = .ok (.iconst 0, 1) := by decide +kernel
theorem dL_holds_340 : decode cL_holds 340 = .ok (.ireturn, 1) := by decide +kernel
theorem dL_content_0 : decode cL_content 0 = .ok (.lconst 0, 1) := by decide +kernel
theorem dL_content_1 : decode cL_content 1 = .ok (.lstore_n 1, 1) := by decide +kernel
theorem dL_content_2 : decode cL_content 2 = .ok (.iconst 0, 1) := by decide +kernel
theorem dL_content_3 : decode cL_content 3 = .ok (.istore_n 3, 1) := by decide +kernel
theorem dL_content_4 : decode cL_content 4 = .ok (.iload_n 3, 1) := by decide +kernel
theorem dL_content_5 : decode cL_content 5 = .ok (.aload_n 0, 1) := by decide +kernel
theorem dL_content_6 : decode cL_content 6 = .ok (.invokevirtual 13, 3) := by decide +kernel
theorem dL_content_9 : decode cL_content 9 = .ok (.if_icmp .ge 51, 3) := by decide +kernel
theorem dL_content_12 : decode cL_content 12 = .ok (.aload_n 0, 1) := by decide +kernel
theorem dL_content_13 : decode cL_content 13 = .ok (.iload_n 3, 1) := by decide +kernel
theorem dL_content_14 : decode cL_content 14 = .ok (.invokevirtual 16, 3) := by decide +kernel
theorem dL_content_17 : decode cL_content 17 = .ok (.iconst (-1), 1) := by decide +kernel
theorem dL_content_18 : decode cL_content 18 = .ok (.if_icmp .eq 36, 3) := by decide +kernel
theorem dL_content_21 : decode cL_content 21 = .ok (.lload_n 1, 1) := by decide +kernel
theorem dL_content_22 : decode cL_content 22 = .ok (.aload_n 0, 1) := by decide +kernel
theorem dL_content_23 : decode cL_content 23 = .ok (.iload_n 3, 1) := by decide +kernel
theorem dL_content_24 : decode cL_content 24 = .ok (.invokevirtual 16, 3) := by decide +kernel
theorem dL_content_27 : decode cL_content 27 = .ok (.i2l, 1) := by decide +kernel
theorem dL_content_28 : decode cL_content 28 = .ok (.lconst 1, 1) := by decide +kernel
theorem dL_content_29 : decode cL_content 29 = .ok (.ladd, 1) := by decide +kernel
theorem dL_content_30 : decode cL_content 30 = .ok (.aload_n 0, 1) := by decide +kernel
theorem dL_content_31 : decode cL_content 31 = .ok (.iload_n 3, 1) := by decide +kernel
theorem dL_content_32 : decode cL_content 32 = .ok (.invokevirtual 16, 3) := by decide +kernel
theorem dL_content_35 : decode cL_content 35 = .ok (.i2l, 1) := by decide +kernel
theorem dL_content_36 : decode cL_content 36 = .ok (.ldc2_w 100, 3) := by decide +kernel
theorem dL_content_39 : decode cL_content 39 = .ok (.ladd, 1) := by decide +kernel
theorem dL_content_40 : decode cL_content 40 = .ok (.lmul, 1) := by decide +kernel
theorem dL_content_41 : decode cL_content 41 = .ok (.aload_n 0, 1) := by decide +kernel
theorem dL_content_42 : decode cL_content 42 = .ok (.iload_n 3, 1) := by decide +kernel
theorem dL_content_43 : decode cL_content 43 = .ok (.invokevirtual 76, 3) := by decide +kernel
theorem dL_content_46 : decode cL_content 46 = .ok (.i2l, 1) := by decide +kernel
theorem dL_content_47 : decode cL_content 47 = .ok (.ldc2_w 102, 3) := by decide +kernel
theorem dL_content_50 : decode cL_content 50 = .ok (.ladd, 1) := by decide +kernel
theorem dL_content_51 : decode cL_content 51 = .ok (.lmul, 1) := by decide +kernel
theorem dL_content_52 : decode cL_content 52 = .ok (.ladd, 1) := by decide +kernel
theorem dL_content_53 : decode cL_content 53 = .ok (.lstore_n 1, 1) := by decide +kernel
theorem dL_content_54 : decode cL_content 54 = .ok (.iinc 3 1, 3) := by decide +kernel
theorem dL_content_57 : decode cL_content 57 = .ok (.goto (-53), 3) := by decide +kernel
theorem dL_content_60 : decode cL_content 60 = .ok (.lload_n 1, 1) := by decide +kernel
theorem dL_content_61 : decode cL_content 61 = .ok (.lreturn, 1) := by decide +kernel
theorem dL_sum_0 : decode cL_sum 0 = .ok (.aload_n 0, 1) := by decide +kernel
theorem dL_sum_1 : decode cL_sum 1 = .ok (.invokevirtual 13, 3) := by decide +kernel
theorem dL_sum_4 : decode cL_sum 4 = .ok (.i2l, 1) := by decide +kernel
theorem dL_sum_5 : decode cL_sum 5 = .ok (.ldc2_w 104, 3) := by decide +kernel
theorem dL_sum_8 : decode cL_sum 8 = .ok (.aload_n 0, 1) := by decide +kernel
theorem dL_sum_9 : decode cL_sum 9 = .ok (.invokevirtual 61, 3) := by decide +kernel
theorem dL_sum_12 : decode cL_sum 12 = .ok (.i2l, 1) := by decide +kernel
theorem dL_sum_13 : decode cL_sum 13 = .ok (.lmul, 1) := by decide +kernel
theorem dL_sum_14 : decode cL_sum 14 = .ok (.ladd, 1) := by decide +kernel
theorem dL_sum_15 : decode cL_sum 15 = .ok (.ldc2_w 106, 3) := by decide +kernel
theorem dL_sum_18 : decode cL_sum 18 = .ok (.aload_n 0, 1) := by decide +kernel
theorem dL_sum_19 : decode cL_sum 19 = .ok (.invokevirtual 108, 3) := by decide +kernel
theorem dL_sum_22 : decode cL_sum 22 = .ok (.i2l, 1) := by decide +kernel
theorem dL_sum_23 : decode cL_sum 23 = .ok (.lmul, 1) := by decide +kernel
theorem dL_sum_24 : decode cL_sum 24 = .ok (.ladd, 1) := by decide +kernel
theorem dL_sum_25 : decode cL_sum 25 = .ok (.aload_n 0, 1) := by decide +kernel
theorem dL_sum_26 : decode cL_sum 26 = .ok (.invokevirtual 111, 3) := by decide +kernel
theorem dL_sum_29 : decode cL_sum 29 = .ok (.ifCond .eq 9, 3) := by decide +kernel
theorem dL_sum_32 : decode cL_sum 32 = .ok (.ldc2_w 100, 3) := by decide +kernel
theorem dL_sum_35 : decode cL_sum 35 = .ok (.goto 4, 3) := by decide +kernel
theorem dL_sum_38 : decode cL_sum 38 = .ok (.lconst 0, 1) := by decide +kernel
theorem dL_sum_39 : decode cL_sum 39 = .ok (.ladd, 1) := by decide +kernel
theorem dL_sum_40 : decode cL_sum 40 = .ok (.ldc2_w 115, 3) := by decide +kernel
theorem dL_sum_43 : decode cL_sum 43 = .ok (.aload_n 0, 1) := by decide +kernel
theorem dL_sum_44 : decode cL_sum 44 = .ok (.invokevirtual 117, 3) := by decide +kernel
theorem dL_sum_47 : decode cL_sum 47 = .ok (.i2l, 1) := by decide +kernel
theorem dL_sum_48 : decode cL_sum 48 = .ok (.lmul, 1) := by decide +kernel
theorem dL_sum_49 : decode cL_sum 49 = .ok (.ladd, 1) := by decide +kernel
theorem dL_sum_50 : decode cL_sum 50 = .ok (.ldc2_w 120, 3) := by decide +kernel
theorem dL_sum_53 : decode cL_sum 53 = .ok (.aload_n 0, 1) := by decide +kernel
theorem dL_sum_54 : decode cL_sum 54 = .ok (.invokevirtual 122, 3) := by decide +kernel
theorem dL_sum_57 : decode cL_sum 57 = .ok (.i2l, 1) := by decide +kernel
theorem dL_sum_58 : decode cL_sum 58 = .ok (.lmul, 1) := by decide +kernel
theorem dL_sum_59 : decode cL_sum 59 = .ok (.ladd, 1) := by decide +kernel
theorem dL_sum_60 : decode cL_sum 60 = .ok (.ldc2_w 125, 3) := by decide +kernel
theorem dL_sum_63 : decode cL_sum 63 = .ok (.aload_n 0, 1) := by decide +kernel
theorem dL_sum_64 : decode cL_sum 64 = .ok (.invokevirtual 127, 3) := by decide +kernel
theorem dL_sum_67 : decode cL_sum 67 = .ok (.i2l, 1) := by decide +kernel
theorem dL_sum_68 : decode cL_sum 68 = .ok (.lmul, 1) := by decide +kernel
theorem dL_sum_69 : decode cL_sum 69 = .ok (.ladd, 1) := by decide +kernel
theorem dL_sum_70 : decode cL_sum 70 = .ok (.ldc2_w 130, 3) := by decide +kernel
theorem dL_sum_73 : decode cL_sum 73 = .ok (.aload_n 0, 1) := by decide +kernel
theorem dL_sum_74 : decode cL_sum 74 = .ok (.invokevirtual 91, 3) := by decide +kernel
theorem dL_sum_77 : decode cL_sum 77 = .ok (.i2l, 1) := by decide +kernel
theorem dL_sum_78 : decode cL_sum 78 = .ok (.lmul, 1) := by decide +kernel
theorem dL_sum_79 : decode cL_sum 79 = .ok (.ladd, 1) := by decide +kernel
theorem dL_sum_80 : decode cL_sum 80 = .ok (.ldc2_w 132, 3) := by decide +kernel
theorem dL_sum_83 : decode cL_sum 83 = .ok (.aload_n 0, 1) := by decide +kernel
theorem dL_sum_84 : decode cL_sum 84 = .ok (.invokevirtual 94, 3) := by decide +kernel
theorem dL_sum_87 : decode cL_sum 87 = .ok (.i2l, 1) := by decide +kernel
theorem dL_sum_88 : decode cL_sum 88 = .ok (.lmul, 1) := by decide +kernel
theorem dL_sum_89 : decode cL_sum 89 = .ok (.ladd, 1) := by decide +kernel
theorem dL_sum_90 : decode cL_sum 90 = .ok (.lstore_n 1, 1) := by decide +kernel
theorem dL_sum_91 : decode cL_sum 91 = .ok (.iconst 0, 1) := by decide +kernel
theorem dL_sum_92 : decode cL_sum 92 = .ok (.istore_n 3, 1) := by decide +kernel
theorem dL_sum_93 : decode cL_sum 93 = .ok (.iload_n 3, 1) := by decide +kernel
theorem dL_sum_94 : decode cL_sum 94 = .ok (.aload_n 0, 1) := by decide +kernel
theorem dL_sum_95 : decode cL_sum 95 = .ok (.invokevirtual 13, 3) := by decide +kernel
theorem dL_sum_98 : decode cL_sum 98 = .ok (.if_icmp .ge 33, 3) := by decide +kernel
theorem dL_sum_101 : decode cL_sum 101 = .ok (.ldc2_w 134, 3) := by decide +kernel
theorem dL_sum_104 : decode cL_sum 104 = .ok (.lload_n 1, 1) := by decide +kernel
theorem dL_sum_105 : decode cL_sum 105 = .ok (.lmul, 1) := by decide +kernel
theorem dL_sum_106 : decode cL_sum 106 = .ok (.aload_n 0, 1) := by decide +kernel
theorem dL_sum_107 : decode cL_sum 107 = .ok (.iload_n 3, 1) := by decide +kernel
theorem dL_sum_108 : decode cL_sum 108 = .ok (.invokevirtual 16, 3) := by decide +kernel
theorem dL_sum_111 : decode cL_sum 111 = .ok (.i2l, 1) := by decide +kernel
theorem dL_sum_112 : decode cL_sum 112 = .ok (.ladd, 1) := by decide +kernel
theorem dL_sum_113 : decode cL_sum 113 = .ok (.ldc2_w 136, 3) := by decide +kernel
theorem dL_sum_116 : decode cL_sum 116 = .ok (.aload_n 0, 1) := by decide +kernel
theorem dL_sum_117 : decode cL_sum 117 = .ok (.iload_n 3, 1) := by decide +kernel
theorem dL_sum_118 : decode cL_sum 118 = .ok (.invokevirtual 76, 3) := by decide +kernel
theorem dL_sum_121 : decode cL_sum 121 = .ok (.i2l, 1) := by decide +kernel
theorem dL_sum_122 : decode cL_sum 122 = .ok (.lmul, 1) := by decide +kernel
theorem dL_sum_123 : decode cL_sum 123 = .ok (.ladd, 1) := by decide +kernel
theorem dL_sum_124 : decode cL_sum 124 = .ok (.lstore_n 1, 1) := by decide +kernel
theorem dL_sum_125 : decode cL_sum 125 = .ok (.iinc 3 1, 3) := by decide +kernel
theorem dL_sum_128 : decode cL_sum 128 = .ok (.goto (-35), 3) := by decide +kernel
theorem dL_sum_131 : decode cL_sum 131 = .ok (.lload_n 1, 1) := by decide +kernel
theorem dL_sum_132 : decode cL_sum 132 = .ok (.lreturn, 1) := by decide +kernel
theorem dL_isBuilt_0 : decode cL_isBuilt 0 = .ok (.aload_n 0, 1) := by decide +kernel
theorem dL_isBuilt_1 : decode cL_isBuilt 1 = .ok (.invokestatic 138, 3) := by decide +kernel
theorem dL_isBuilt_4 : decode cL_isBuilt 4 = .ok (.lstore_n 3, 1) := by decide +kernel
theorem dL_isBuilt_5 : decode cL_isBuilt 5 = .ok (.aload_n 0, 1) := by decide +kernel
theorem dL_isBuilt_6 : decode cL_isBuilt 6 = .ok (.invokestatic 142, 3) := by decide +kernel
theorem dL_isBuilt_9 : decode cL_isBuilt 9 = .ok (.lstore 5, 2) := by decide +kernel
theorem dL_isBuilt_11 : decode cL_isBuilt 11 = .ok (.aload_n 0, 1) := by decide +kernel
theorem dL_isBuilt_12 : decode cL_isBuilt 12 = .ok (.iload_n 1, 1) := by decide +kernel
theorem dL_isBuilt_13 : decode cL_isBuilt 13 = .ok (.invokevirtual 39, 3) := by decide +kernel
theorem dL_isBuilt_16 : decode cL_isBuilt 16 = .ok (.istore 7, 2) := by decide +kernel
theorem dL_isBuilt_18 : decode cL_isBuilt 18 = .ok (.aload_n 0, 1) := by decide +kernel
theorem dL_isBuilt_19 : decode cL_isBuilt 19 = .ok (.invokevirtual 7, 3) := by decide +kernel
theorem dL_isBuilt_22 : decode cL_isBuilt 22 = .ok (.istore 8, 2) := by decide +kernel
theorem dL_isBuilt_24 : decode cL_isBuilt 24 = .ok (.iconst 1, 1) := by decide +kernel
theorem dL_isBuilt_25 : decode cL_isBuilt 25 = .ok (.istore 9, 2) := by decide +kernel
theorem dL_isBuilt_27 : decode cL_isBuilt 27 = .ok (.iload 7, 2) := by decide +kernel
theorem dL_isBuilt_29 : decode cL_isBuilt 29 = .ok (.iconst (-1), 1) := by decide +kernel
theorem dL_isBuilt_30 : decode cL_isBuilt 30 = .ok (.if_icmp .eq 51, 3) := by decide +kernel
theorem dL_isBuilt_33 : decode cL_isBuilt 33 = .ok (.aload_n 0, 1) := by decide +kernel
theorem dL_isBuilt_34 : decode cL_isBuilt 34 = .ok (.iload_n 1, 1) := by decide +kernel
theorem dL_isBuilt_35 : decode cL_isBuilt 35 = .ok (.invokevirtual 42, 3) := by decide +kernel
theorem dL_isBuilt_38 : decode cL_isBuilt 38 = .ok (.iload 7, 2) := by decide +kernel
theorem dL_isBuilt_40 : decode cL_isBuilt 40 = .ok (.if_icmp .ne 33, 3) := by decide +kernel
theorem dL_isBuilt_43 : decode cL_isBuilt 43 = .ok (.aload_n 0, 1) := by decide +kernel
theorem dL_isBuilt_44 : decode cL_isBuilt 44 = .ok (.invokestatic 142, 3) := by decide +kernel
theorem dL_isBuilt_47 : decode cL_isBuilt 47 = .ok (.lload 5, 2) := by decide +kernel
theorem dL_isBuilt_49 : decode cL_isBuilt 49 = .ok (.lcmp, 1) := by decide +kernel
theorem dL_isBuilt_50 : decode cL_isBuilt 50 = .ok (.ifCond .ne 23, 3) := by decide +kernel
theorem dL_isBuilt_53 : decode cL_isBuilt 53 = .ok (.aload_n 0, 1) := by decide +kernel
theorem dL_isBuilt_54 : decode cL_isBuilt 54 = .ok (.invokevirtual 7, 3) := by decide +kernel
theorem dL_isBuilt_57 : decode cL_isBuilt 57 = .ok (.iload 8, 2) := by decide +kernel
theorem dL_isBuilt_59 : decode cL_isBuilt 59 = .ok (.if_icmp .ne 14, 3) := by decide +kernel
theorem dL_isBuilt_62 : decode cL_isBuilt 62 = .ok (.aload_n 0, 1) := by decide +kernel
theorem dL_isBuilt_63 : decode cL_isBuilt 63 = .ok (.invokestatic 145, 3) := by decide +kernel
theorem dL_isBuilt_66 : decode cL_isBuilt 66 = .ok (.ifCond .eq 7, 3) := by decide +kernel
theorem dL_isBuilt_69 : decode cL_isBuilt 69 = .ok (.iconst 1, 1) := by decide +kernel
theorem dL_isBuilt_70 : decode cL_isBuilt 70 = .ok (.goto 4, 3) := by decide +kernel
theorem dL_isBuilt_73 : decode cL_isBuilt 73 = .ok (.iconst 0, 1) := by decide +kernel
theorem dL_isBuilt_74 : decode cL_isBuilt 74 = .ok (.istore 9, 2) := by decide +kernel
theorem dL_isBuilt_76 : decode cL_isBuilt 76 = .ok (.aload_n 0, 1) := by decide +kernel
theorem dL_isBuilt_77 : decode cL_isBuilt 77 = .ok (.invokevirtual 149, 3) := by decide +kernel
theorem dL_isBuilt_80 : decode cL_isBuilt 80 = .ok (.pop, 1) := by decide +kernel
theorem dL_isBuilt_81 : decode cL_isBuilt 81 = .ok (.aload_n 0, 1) := by decide +kernel
theorem dL_isBuilt_82 : decode cL_isBuilt 82 = .ok (.iload_n 2, 1) := by decide +kernel
theorem dL_isBuilt_83 : decode cL_isBuilt 83 = .ok (.invokevirtual 45, 3) := by decide +kernel
theorem dL_isBuilt_86 : decode cL_isBuilt 86 = .ok (.istore 10, 2) := by decide +kernel
theorem dL_isBuilt_88 : decode cL_isBuilt 88 = .ok (.iload 10, 2) := by decide +kernel
theorem dL_isBuilt_90 : decode cL_isBuilt 90 = .ok (.iconst (-1), 1) := by decide +kernel
theorem dL_isBuilt_91 : decode cL_isBuilt 91 = .ok (.if_icmp .eq 54, 3) := by decide +kernel
theorem dL_isBuilt_94 : decode cL_isBuilt 94 = .ok (.aload_n 0, 1) := by decide +kernel
theorem dL_isBuilt_95 : decode cL_isBuilt 95 = .ok (.invokevirtual 13, 3) := by decide +kernel
theorem dL_isBuilt_98 : decode cL_isBuilt 98 = .ok (.istore 11, 2) := by decide +kernel
theorem dL_isBuilt_100 : decode cL_isBuilt 100 = .ok (.iload 9, 2) := by decide +kernel
theorem dL_isBuilt_102 : decode cL_isBuilt 102 = .ok (.ifCond .eq 35, 3) := by decide +kernel
theorem dL_isBuilt_105 : decode cL_isBuilt 105 = .ok (.aload_n 0, 1) := by decide +kernel
theorem dL_isBuilt_106 : decode cL_isBuilt 106 = .ok (.iload 10, 2) := by decide +kernel
theorem dL_isBuilt_108 : decode cL_isBuilt 108 = .ok (.invokevirtual 48, 3) := by decide +kernel
theorem dL_isBuilt_111 : decode cL_isBuilt 111 = .ok (.iload 11, 2) := by decide +kernel
theorem dL_isBuilt_113 : decode cL_isBuilt 113 = .ok (.if_icmp .ne 24, 3) := by decide +kernel
theorem dL_isBuilt_116 : decode cL_isBuilt 116 = .ok (.aload_n 0, 1) := by decide +kernel
theorem dL_isBuilt_117 : decode cL_isBuilt 117 = .ok (.invokestatic 142, 3) := by decide +kernel
theorem dL_isBuilt_120 : decode cL_isBuilt 120 = .ok (.lload 5, 2) := by decide +kernel
theorem dL_isBuilt_122 : decode cL_isBuilt 122 = .ok (.lcmp, 1) := by decide +kernel
theorem dL_isBuilt_123 : decode cL_isBuilt 123 = .ok (.ifCond .ne 14, 3) := by decide +kernel
theorem dL_isBuilt_126 : decode cL_isBuilt 126 = .ok (.aload_n 0, 1) := by decide +kernel
theorem dL_isBuilt_127 : decode cL_isBuilt 127 = .ok (.invokestatic 145, 3) := by decide +kernel
theorem dL_isBuilt_130 : decode cL_isBuilt 130 = .ok (.ifCond .eq 7, 3) := by decide +kernel
theorem dL_isBuilt_133 : decode cL_isBuilt 133 = .ok (.iconst 1, 1) := by decide +kernel
theorem dL_isBuilt_134 : decode cL_isBuilt 134 = .ok (.goto 4, 3) := by decide +kernel
theorem dL_isBuilt_137 : decode cL_isBuilt 137 = .ok (.iconst 0, 1) := by decide +kernel
theorem dL_isBuilt_138 : decode cL_isBuilt 138 = .ok (.istore 9, 2) := by decide +kernel
theorem dL_isBuilt_140 : decode cL_isBuilt 140 = .ok (.aload_n 0, 1) := by decide +kernel
theorem dL_isBuilt_141 : decode cL_isBuilt 141 = .ok (.invokevirtual 149, 3) := by decide +kernel
theorem dL_isBuilt_144 : decode cL_isBuilt 144 = .ok (.pop, 1) := by decide +kernel
theorem dL_isBuilt_145 : decode cL_isBuilt 145 = .ok (.iload 9, 2) := by decide +kernel
theorem dL_isBuilt_147 : decode cL_isBuilt 147 = .ok (.ifCond .eq 16, 3) := by decide +kernel
theorem dL_isBuilt_150 : decode cL_isBuilt 150 = .ok (.aload_n 0, 1) := by decide +kernel
theorem dL_isBuilt_151 : decode cL_isBuilt 151 = .ok (.invokestatic 138, 3) := by decide +kernel
theorem dL_isBuilt_154 : decode cL_isBuilt 154 = .ok (.lload_n 3, 1) := by decide +kernel
theorem dL_isBuilt_155 : decode cL_isBuilt 155 = .ok (.lcmp, 1) := by decide +kernel
theorem dL_isBuilt_156 : decode cL_isBuilt 156 = .ok (.ifCond .ne 7, 3) := by decide +kernel
theorem dL_isBuilt_159 : decode cL_isBuilt 159 = .ok (.iconst 1, 1) := by decide +kernel
theorem dL_isBuilt_160 : decode cL_isBuilt 160 = .ok (.goto 4, 3) := by decide +kernel
theorem dL_isBuilt_163 : decode cL_isBuilt 163 = .ok (.iconst 0, 1) := by decide +kernel
theorem dL_isBuilt_164 : decode cL_isBuilt 164 = .ok (.ireturn, 1) := by decide +kernel
theorem dL_law_0 : decode cL_law 0 = .ok (.new 8, 3) := by decide +kernel
theorem dL_law_3 : decode cL_law 3 = .ok (.dup, 1) := by decide +kernel
theorem dL_law_4 : decode cL_law 4 = .ok (.invokespecial 152, 3) := by decide +kernel
theorem dL_law_7 : decode cL_law 7 = .ok (.astore_n 1, 1) := by decide +kernel
theorem dL_law_8 : decode cL_law 8 = .ok (.aload_n 1, 1) := by decide +kernel
theorem dL_law_9 : decode cL_law 9 = .ok (.invokestatic 145, 3) := by decide +kernel
theorem dL_law_12 : decode cL_law 12 = .ok (.ifCond .ne 5, 3) := by decide +kernel
theorem dL_law_15 : decode cL_law 15 = .ok (.iconst 0, 1) := by decide +kernel
theorem dL_law_16 : decode cL_law 16 = .ok (.ireturn, 1) := by decide +kernel
theorem dL_law_17 : decode cL_law 17 = .ok (.iconst 0, 1) := by decide +kernel
theorem dL_law_18 : decode cL_law 18 = .ok (.istore_n 2, 1) := by decide +kernel
theorem dL_law_19 : decode cL_law 19 = .ok (.iload_n 2, 1) := by decide +kernel
theorem dL_law_20 : decode cL_law 20 = .ok (.bipush 14, 2) := by decide +kernel
theorem dL_law_22 : decode cL_law 22 = .ok (.if_icmp .ge 169, 3) := by decide +kernel
theorem dL_law_25 : decode cL_law 25 = .ok (.aload_n 0, 1) := by decide +kernel
theorem dL_law_26 : decode cL_law 26 = .ok (.iload_n 2, 1) := by decide +kernel
theorem dL_law_27 : decode cL_law 27 = .ok (.invokestatic 153, 3) := by decide +kernel
theorem dL_law_30 : decode cL_law 30 = .ok (.istore_n 3, 1) := by decide +kernel
theorem dL_law_31 : decode cL_law 31 = .ok (.aload_n 1, 1) := by decide +kernel
theorem dL_law_32 : decode cL_law 32 = .ok (.invokevirtual 157, 3) := by decide +kernel
theorem dL_law_35 : decode cL_law 35 = .ok (.istore 4, 2) := by decide +kernel
theorem dL_law_37 : decode cL_law 37 = .ok (.aload_n 1, 1) := by decide +kernel
theorem dL_law_38 : decode cL_law 38 = .ok (.invokestatic 138, 3) := by decide +kernel
theorem dL_law_41 : decode cL_law 41 = .ok (.lstore 5, 2) := by decide +kernel
theorem dL_law_43 : decode cL_law 43 = .ok (.aload_n 1, 1) := by decide +kernel
theorem dL_law_44 : decode cL_law 44 = .ok (.iload_n 3, 1) := by decide +kernel
theorem dL_law_45 : decode cL_law 45 = .ok (.invokestatic 160, 3) := by decide +kernel
theorem dL_law_48 : decode cL_law 48 = .ok (.aload_n 1, 1) := by decide +kernel
theorem dL_law_49 : decode cL_law 49 = .ok (.invokevirtual 157, 3) := by decide +kernel
theorem dL_law_52 : decode cL_law 52 = .ok (.iload 4, 2) := by decide +kernel
theorem dL_law_54 : decode cL_law 54 = .ok (.if_icmp .le 7, 3) := by decide +kernel
theorem dL_law_57 : decode cL_law 57 = .ok (.iconst 1, 1) := by decide +kernel
theorem dL_law_58 : decode cL_law 58 = .ok (.goto 4, 3) := by decide +kernel
theorem dL_law_61 : decode cL_law 61 = .ok (.iconst 0, 1) := by decide +kernel
theorem dL_law_62 : decode cL_law 62 = .ok (.istore 7, 2) := by decide +kernel
theorem dL_law_64 : decode cL_law 64 = .ok (.aload_n 1, 1) := by decide +kernel
theorem dL_law_65 : decode cL_law 65 = .ok (.invokestatic 145, 3) := by decide +kernel
theorem dL_law_68 : decode cL_law 68 = .ok (.ifCond .eq 25, 3) := by decide +kernel
theorem dL_law_71 : decode cL_law 71 = .ok (.iload 7, 2) := by decide +kernel
theorem dL_law_73 : decode cL_law 73 = .ok (.ifCond .ne 22, 3) := by decide +kernel
theorem dL_law_76 : decode cL_law 76 = .ok (.iload 4, 2) := by decide +kernel
theorem dL_law_78 : decode cL_law 78 = .ok (.bipush 8, 2) := by decide +kernel
theorem dL_law_80 : decode cL_law 80 = .ok (.if_icmp .ge 15, 3) := by decide +kernel
theorem dL_law_83 : decode cL_law 83 = .ok (.aload_n 1, 1) := by decide +kernel
theorem dL_law_84 : decode cL_law 84 = .ok (.invokestatic 138, 3) := by decide +kernel
theorem dL_law_87 : decode cL_law 87 = .ok (.lload 5, 2) := by decide +kernel
theorem dL_law_89 : decode cL_law 89 = .ok (.lcmp, 1) := by decide +kernel
theorem dL_law_90 : decode cL_law 90 = .ok (.ifCond .eq 5, 3) := by decide +kernel
theorem dL_law_93 : decode cL_law 93 = .ok (.iconst 0, 1) := by decide +kernel
theorem dL_law_94 : decode cL_law 94 = .ok (.ireturn, 1) := by decide +kernel
theorem dL_law_95 : decode cL_law 95 = .ok (.iload 7, 2) := by decide +kernel
theorem dL_law_97 : decode cL_law 97 = .ok (.ifCond .eq 52, 3) := by decide +kernel
theorem dL_law_100 : decode cL_law 100 = .ok (.iload 4, 2) := by decide +kernel
theorem dL_law_102 : decode cL_law 102 = .ok (.bipush 7, 2) := by decide +kernel
theorem dL_law_104 : decode cL_law 104 = .ok (.if_icmp .ge 45, 3) := by decide +kernel
theorem dL_law_107 : decode cL_law 107 = .ok (.aload_n 1, 1) := by decide +kernel
theorem dL_law_108 : decode cL_law 108 = .ok (.invokevirtual 157, 3) := by decide +kernel
theorem dL_law_111 : decode cL_law 111 = .ok (.iload 4, 2) := by decide +kernel
theorem dL_law_113 : decode cL_law 113 = .ok (.iconst 1, 1) := by decide +kernel
theorem dL_law_114 : decode cL_law 114 = .ok (.iadd, 1) := by decide +kernel
theorem dL_law_115 : decode cL_law 115 = .ok (.if_icmp .ne 34, 3) := by decide +kernel
theorem dL_law_118 : decode cL_law 118 = .ok (.iload_n 3, 1) := by decide +kernel
theorem dL_law_119 : decode cL_law 119 = .ok (.bipush 29, 2) := by decide +kernel
theorem dL_law_121 : decode cL_law 121 = .ok (.iushr, 1) := by decide +kernel
theorem dL_law_122 : decode cL_law 122 = .ok (.iconst 3, 1) := by decide +kernel
theorem dL_law_123 : decode cL_law 123 = .ok (.iand, 1) := by decide +kernel
theorem dL_law_124 : decode cL_law 124 = .ok (.iconst 1, 1) := by decide +kernel
theorem dL_law_125 : decode cL_law 125 = .ok (.if_icmp .ne 24, 3) := by decide +kernel
theorem dL_law_128 : decode cL_law 128 = .ok (.aload_n 1, 1) := by decide +kernel
theorem dL_law_129 : decode cL_law 129 = .ok (.invokevirtual 149, 3) := by decide +kernel
theorem dL_law_132 : decode cL_law 132 = .ok (.iload 4, 2) := by decide +kernel
theorem dL_law_134 : decode cL_law 134 = .ok (.if_icmp .ne 13, 3) := by decide +kernel
theorem dL_law_137 : decode cL_law 137 = .ok (.aload_n 1, 1) := by decide +kernel
theorem dL_law_138 : decode cL_law 138 = .ok (.invokestatic 138, 3) := by decide +kernel
theorem dL_law_141 : decode cL_law 141 = .ok (.lload 5, 2) := by decide +kernel
theorem dL_law_143 : decode cL_law 143 = .ok (.lcmp, 1) := by decide +kernel
theorem dL_law_144 : decode cL_law 144 = .ok (.ifCond .eq 5, 3) := by decide +kernel
theorem dL_law_147 : decode cL_law 147 = .ok (.iconst 0, 1) := by decide +kernel
theorem dL_law_148 : decode cL_law 148 = .ok (.ireturn, 1) := by decide +kernel
theorem dL_law_149 : decode cL_law 149 = .ok (.iload_n 2, 1) := by decide +kernel
theorem dL_law_150 : decode cL_law 150 = .ok (.iconst 4, 1) := by decide +kernel
theorem dL_law_151 : decode cL_law 151 = .ok (.irem, 1) := by decide +kernel
theorem dL_law_152 : decode cL_law 152 = .ok (.iconst 3, 1) := by decide +kernel
theorem dL_law_153 : decode cL_law 153 = .ok (.if_icmp .ne 32, 3) := by decide +kernel
theorem dL_law_156 : decode cL_law 156 = .ok (.aload_n 1, 1) := by decide +kernel
theorem dL_law_157 : decode cL_law 157 = .ok (.iconst 2, 1) := by decide +kernel
theorem dL_law_158 : decode cL_law 158 = .ok (.iload_n 3, 1) := by decide +kernel
theorem dL_law_159 : decode cL_law 159 = .ok (.bipush 6, 2) := by decide +kernel
theorem dL_law_161 : decode cL_law 161 = .ok (.iushr, 1) := by decide +kernel
theorem dL_law_162 : decode cL_law 162 = .ok (.bipush 7, 2) := by decide +kernel
theorem dL_law_164 : decode cL_law 164 = .ok (.iand, 1) := by decide +kernel
theorem dL_law_165 : decode cL_law 165 = .ok (.iconst 5, 1) := by decide +kernel
theorem dL_law_166 : decode cL_law 166 = .ok (.irem, 1) := by decide +kernel
theorem dL_law_167 : decode cL_law 167 = .ok (.iadd, 1) := by decide +kernel
theorem dL_law_168 : decode cL_law 168 = .ok (.iconst 1, 1) := by decide +kernel
theorem dL_law_169 : decode cL_law 169 = .ok (.iload_n 3, 1) := by decide +kernel
theorem dL_law_170 : decode cL_law 170 = .ok (.bipush 9, 2) := by decide +kernel
theorem dL_law_172 : decode cL_law 172 = .ok (.iushr, 1) := by decide +kernel
theorem dL_law_173 : decode cL_law 173 = .ok (.bipush 15, 2) := by decide +kernel
theorem dL_law_175 : decode cL_law 175 = .ok (.iand, 1) := by decide +kernel
theorem dL_law_176 : decode cL_law 176 = .ok (.iadd, 1) := by decide +kernel
theorem dL_law_177 : decode cL_law 177 = .ok (.invokestatic 164, 3) := by decide +kernel
theorem dL_law_180 : decode cL_law 180 = .ok (.ifCond .ne 5, 3) := by decide +kernel
theorem dL_law_183 : decode cL_law 183 = .ok (.iconst 0, 1) := by decide +kernel
theorem dL_law_184 : decode cL_law 184 = .ok (.ireturn, 1) := by decide +kernel
theorem dL_law_185 : decode cL_law 185 = .ok (.iinc 2 1, 3) := by decide +kernel
theorem dL_law_188 : decode cL_law 188 = .ok (.goto (-169), 3) := by decide +kernel
theorem dL_law_191 : decode cL_law 191 = .ok (.iconst 1, 1) := by decide +kernel
theorem dL_law_192 : decode cL_law 192 = .ok (.ireturn, 1) := by decide +kernel
