theorem dX0_init_0 : decode cX0_init 0 = .ok (.aload_n 0, 1) := by decide +kernel
theorem dX0_init_1 : decode cX0_init 1 = .ok (.invokespecial 3, 3) := by decide +kernel
theorem dX0_init_4 : decode cX0_init 4 = .ok (.aload_n 0, 1) := by decide +kernel
theorem dX0_init_5 : decode cX0_init 5 = .ok (.bipush 16, 2) := by decide +kernel
theorem dX0_init_7 : decode cX0_init 7 = .ok (.newarray .int, 2) := by decide +kernel
theorem dX0_init_9 : decode cX0_init 9 = .ok (.putfield 9, 3) := by decide +kernel
theorem dX0_init_12 : decode cX0_init 12 = .ok (.return_, 1) := by decide +kernel
theorem dX0_beginAbout_0 : decode cX0_beginAbout 0 = .ok (.aload_n 0, 1) := by decide +kernel
theorem dX0_beginAbout_1 : decode cX0_beginAbout 1 = .ok (.iload_n 1, 1) := by decide +kernel
theorem dX0_beginAbout_2 : decode cX0_beginAbout 2 = .ok (.putfield 15, 3) := by decide +kernel
theorem dX0_beginAbout_5 : decode cX0_beginAbout 5 = .ok (.aload_n 0, 1) := by decide +kernel
theorem dX0_beginAbout_6 : decode cX0_beginAbout 6 = .ok (.iload_n 2, 1) := by decide +kernel
theorem dX0_beginAbout_7 : decode cX0_beginAbout 7 = .ok (.putfield 19, 3) := by decide +kernel
theorem dX0_beginAbout_10 : decode cX0_beginAbout 10 = .ok (.aload_n 0, 1) := by decide +kernel
theorem dX0_beginAbout_11 : decode cX0_beginAbout 11 = .ok (.iload_n 3, 1) := by decide +kernel
theorem dX0_beginAbout_12 : decode cX0_beginAbout 12 = .ok (.putfield 22, 3) := by decide +kernel
theorem dX0_beginAbout_15 : decode cX0_beginAbout 15 = .ok (.aload_n 0, 1) := by decide +kernel
theorem dX0_beginAbout_16 : decode cX0_beginAbout 16 = .ok (.iconst 0, 1) := by decide +kernel
theorem dX0_beginAbout_17 : decode cX0_beginAbout 17 = .ok (.putfield 25, 3) := by decide +kernel
theorem dX0_beginAbout_20 : decode cX0_beginAbout 20 = .ok (.return_, 1) := by decide +kernel
theorem dX0_leave_0 : decode cX0_leave 0 = .ok (.aload_n 0, 1) := by decide +kernel
theorem dX0_leave_1 : decode cX0_leave 1 = .ok (.getfield 25, 3) := by decide +kernel
theorem dX0_leave_4 : decode cX0_leave 4 = .ok (.bipush 16, 2) := by decide +kernel
theorem dX0_leave_6 : decode cX0_leave 6 = .ok (.if_icmp .ge 23, 3) := by decide +kernel
theorem dX0_leave_9 : decode cX0_leave 9 = .ok (.aload_n 0, 1) := by decide +kernel
theorem dX0_leave_10 : decode cX0_leave 10 = .ok (.getfield 9, 3) := by decide +kernel
theorem dX0_leave_13 : decode cX0_leave 13 = .ok (.aload_n 0, 1) := by decide +kernel
theorem dX0_leave_14 : decode cX0_leave 14 = .ok (.getfield 25, 3) := by decide +kernel
theorem dX0_leave_17 : decode cX0_leave 17 = .ok (.iload_n 1, 1) := by decide +kernel
theorem dX0_leave_18 : decode cX0_leave 18 = .ok (.iastore, 1) := by decide +kernel
theorem dX0_leave_19 : decode cX0_leave 19 = .ok (.aload_n 0, 1) := by decide +kernel
theorem dX0_leave_20 : decode cX0_leave 20 = .ok (.dup, 1) := by decide +kernel
theorem dX0_leave_21 : decode cX0_leave 21 = .ok (.getfield 25, 3) := by decide +kernel
theorem dX0_leave_24 : decode cX0_leave 24 = .ok (.iconst 1, 1) := by decide +kernel
theorem dX0_leave_25 : decode cX0_leave 25 = .ok (.iadd, 1) := by decide +kernel
theorem dX0_leave_26 : decode cX0_leave 26 = .ok (.putfield 25, 3) := by decide +kernel
theorem dX0_leave_29 : decode cX0_leave 29 = .ok (.return_, 1) := by decide +kernel
theorem dX0_bodyAt_0 : decode cX0_bodyAt 0 = .ok (.iload_n 1, 1) := by decide +kernel
theorem dX0_bodyAt_1 : decode cX0_bodyAt 1 = .ok (.iconst 0, 1) := by decide +kernel
theorem dX0_bodyAt_2 : decode cX0_bodyAt 2 = .ok (.aload_n 0, 1) := by decide +kernel
theorem dX0_bodyAt_3 : decode cX0_bodyAt 3 = .ok (.getfield 25, 3) := by decide +kernel
theorem dX0_bodyAt_6 : decode cX0_bodyAt 6 = .ok (.iconst 1, 1) := by decide +kernel
theorem dX0_bodyAt_7 : decode cX0_bodyAt 7 = .ok (.isub, 1) := by decide +kernel
theorem dX0_bodyAt_8 : decode cX0_bodyAt 8 = .ok (.invokestatic 28, 3) := by decide +kernel
theorem dX0_bodyAt_11 : decode cX0_bodyAt 11 = .ok (.ifCond .eq 12, 3) := by decide +kernel
theorem dX0_bodyAt_14 : decode cX0_bodyAt 14 = .ok (.aload_n 0, 1) := by decide +kernel
theorem dX0_bodyAt_15 : decode cX0_bodyAt 15 = .ok (.getfield 9, 3) := by decide +kernel
theorem dX0_bodyAt_18 : decode cX0_bodyAt 18 = .ok (.iload_n 1, 1) := by decide +kernel
theorem dX0_bodyAt_19 : decode cX0_bodyAt 19 = .ok (.iaload, 1) := by decide +kernel
theorem dX0_bodyAt_20 : decode cX0_bodyAt 20 = .ok (.goto 5, 3) := by decide +kernel
theorem dX0_bodyAt_23 : decode cX0_bodyAt 23 = .ok (.ldc 32, 2) := by decide +kernel
theorem dX0_bodyAt_25 : decode cX0_bodyAt 25 = .ok (.ireturn, 1) := by decide +kernel
theorem dX1_init_0 : decode cX1_init 0 = .ok (.aload_n 0, 1) := by decide +kernel
theorem dX1_init_1 : decode cX1_init 1 = .ok (.invokespecial 1, 3) := by decide +kernel
theorem dX1_init_4 : decode cX1_init 4 = .ok (.return_, 1) := by decide +kernel
theorem dX1_hopesBy_0 : decode cX1_hopesBy 0 = .ok (.iconst 3, 1) := by decide +kernel
theorem dX1_hopesBy_1 : decode cX1_hopesBy 1 = .ok (.ireturn, 1) := by decide +kernel
theorem dX1_askSize_0 : decode cX1_askSize 0 = .ok (.aload_n 1, 1) := by decide +kernel
theorem dX1_askSize_1 : decode cX1_askSize 1 = .ok (.bipush 13, 2) := by decide +kernel
theorem dX1_askSize_3 : decode cX1_askSize 3 = .ok (.invokevirtual 7, 3) := by decide +kernel
theorem dX1_askSize_6 : decode cX1_askSize 6 = .ok (.aload_n 0, 1) := by decide +kernel
theorem dX1_askSize_7 : decode cX1_askSize 7 = .ok (.aload_n 1, 1) := by decide +kernel
theorem dX1_askSize_8 : decode cX1_askSize 8 = .ok (.invokespecial 13, 3) := by decide +kernel
theorem dX1_askSize_11 : decode cX1_askSize 11 = .ok (.bipush 100, 2) := by decide +kernel
theorem dX1_askSize_13 : decode cX1_askSize 13 = .ok (.isub, 1) := by decide +kernel
theorem dX1_askSize_14 : decode cX1_askSize 14 = .ok (.ireturn, 1) := by decide +kernel
theorem dX1_askMark_0 : decode cX1_askMark 0 = .ok (.aload_n 1, 1) := by decide +kernel
theorem dX1_askMark_1 : decode cX1_askMark 1 = .ok (.bipush 23, 2) := by decide +kernel
theorem dX1_askMark_3 : decode cX1_askMark 3 = .ok (.invokevirtual 7, 3) := by decide +kernel
theorem dX1_askMark_6 : decode cX1_askMark 6 = .ok (.aload_n 0, 1) := by decide +kernel
theorem dX1_askMark_7 : decode cX1_askMark 7 = .ok (.aload_n 1, 1) := by decide +kernel
theorem dX1_askMark_8 : decode cX1_askMark 8 = .ok (.invokespecial 17, 3) := by decide +kernel
theorem dX1_askMark_11 : decode cX1_askMark 11 = .ok (.aload_n 0, 1) := by decide +kernel
theorem dX1_askMark_12 : decode cX1_askMark 12 = .ok (.aload_n 1, 1) := by decide +kernel
theorem dX1_askMark_13 : decode cX1_askMark 13 = .ok (.invokevirtual 20, 3) := by decide +kernel
theorem dX1_askMark_16 : decode cX1_askMark 16 = .ok (.isub, 1) := by decide +kernel
theorem dX1_askMark_17 : decode cX1_askMark 17 = .ok (.ireturn, 1) := by decide +kernel
theorem dX2_init_0 : decode cX2_init 0 = .ok (.aload_n 0, 1) := by decide +kernel
theorem dX2_init_1 : decode cX2_init 1 = .ok (.invokespecial 1, 3) := by decide +kernel
theorem dX2_init_4 : decode cX2_init 4 = .ok (.return_, 1) := by decide +kernel
theorem dX2_hopesBy_0 : decode cX2_hopesBy 0 = .ok (.iload_n 1, 1) := by decide +kernel
theorem dX2_hopesBy_1 : decode cX2_hopesBy 1 = .ok (.iload_n 3, 1) := by decide +kernel
theorem dX2_hopesBy_2 : decode cX2_hopesBy 2 = .ok (.iadd, 1) := by decide +kernel
theorem dX2_hopesBy_3 : decode cX2_hopesBy 3 = .ok (.ireturn, 1) := by decide +kernel
theorem dX2_askSize_0 : decode cX2_askSize 0 = .ok (.aload_n 1, 1) := by decide +kernel
theorem dX2_askSize_1 : decode cX2_askSize 1 = .ok (.bipush 12, 2) := by decide +kernel
theorem dX2_askSize_3 : decode cX2_askSize 3 = .ok (.invokevirtual 7, 3) := by decide +kernel
theorem dX2_askSize_6 : decode cX2_askSize 6 = .ok (.aload_n 0, 1) := by decide +kernel
theorem dX2_askSize_7 : decode cX2_askSize 7 = .ok (.aload_n 1, 1) := by decide +kernel
theorem dX2_askSize_8 : decode cX2_askSize 8 = .ok (.invokespecial 13, 3) := by decide +kernel
theorem dX2_askSize_11 : decode cX2_askSize 11 = .ok (.ineg, 1) := by decide +kernel
theorem dX2_askSize_12 : decode cX2_askSize 12 = .ok (.ireturn, 1) := by decide +kernel
theorem dX2_askMark_0 : decode cX2_askMark 0 = .ok (.aload_n 1, 1) := by decide +kernel
theorem dX2_askMark_1 : decode cX2_askMark 1 = .ok (.bipush 24, 2) := by decide +kernel
theorem dX2_askMark_3 : decode cX2_askMark 3 = .ok (.invokevirtual 7, 3) := by decide +kernel
theorem dX2_askMark_6 : decode cX2_askMark 6 = .ok (.iconst 2, 1) := by decide +kernel
theorem dX2_askMark_7 : decode cX2_askMark 7 = .ok (.aload_n 0, 1) := by decide +kernel
theorem dX2_askMark_8 : decode cX2_askMark 8 = .ok (.aload_n 1, 1) := by decide +kernel
theorem dX2_askMark_9 : decode cX2_askMark 9 = .ok (.invokespecial 17, 3) := by decide +kernel
theorem dX2_askMark_12 : decode cX2_askMark 12 = .ok (.imul, 1) := by decide +kernel
theorem dX2_askMark_13 : decode cX2_askMark 13 = .ok (.ireturn, 1) := by decide +kernel
theorem dX3_init_0 : decode cX3_init 0 = .ok (.aload_n 0, 1) := by decide +kernel
theorem dX3_init_1 : decode cX3_init 1 = .ok (.invokespecial 1, 3) := by decide +kernel
theorem dX3_init_4 : decode cX3_init 4 = .ok (.return_, 1) := by decide +kernel
theorem dX3_hopesBy_0 : decode cX3_hopesBy 0 = .ok (.iload_n 1, 1) := by decide +kernel
theorem dX3_hopesBy_1 : decode cX3_hopesBy 1 = .ok (.iload_n 2, 1) := by decide +kernel
theorem dX3_hopesBy_2 : decode cX3_hopesBy 2 = .ok (.if_icmp .le 9, 3) := by decide +kernel
theorem dX3_hopesBy_5 : decode cX3_hopesBy 5 = .ok (.iload_n 1, 1) := by decide +kernel
theorem dX3_hopesBy_6 : decode cX3_hopesBy 6 = .ok (.iload_n 2, 1) := by decide +kernel
theorem dX3_hopesBy_7 : decode cX3_hopesBy 7 = .ok (.isub, 1) := by decide +kernel
theorem dX3_hopesBy_8 : decode cX3_hopesBy 8 = .ok (.goto 4, 3) := by decide +kernel
theorem dX3_hopesBy_11 : decode cX3_hopesBy 11 = .ok (.iconst 0, 1) := by decide +kernel
theorem dX3_hopesBy_12 : decode cX3_hopesBy 12 = .ok (.ireturn, 1) := by decide +kernel
theorem dX3_askMark_0 : decode cX3_askMark 0 = .ok (.aload_n 1, 1) := by decide +kernel
theorem dX3_askMark_1 : decode cX3_askMark 1 = .ok (.bipush 22, 2) := by decide +kernel
theorem dX3_askMark_3 : decode cX3_askMark 3 = .ok (.invokevirtual 7, 3) := by decide +kernel
theorem dX3_askMark_6 : decode cX3_askMark 6 = .ok (.aload_n 0, 1) := by decide +kernel
theorem dX3_askMark_7 : decode cX3_askMark 7 = .ok (.aload_n 1, 1) := by decide +kernel
theorem dX3_askMark_8 : decode cX3_askMark 8 = .ok (.invokespecial 13, 3) := by decide +kernel
theorem dX3_askMark_11 : decode cX3_askMark 11 = .ok (.sipush 1000, 3) := by decide +kernel
theorem dX3_askMark_14 : decode cX3_askMark 14 = .ok (.isub, 1) := by decide +kernel
theorem dX3_askMark_15 : decode cX3_askMark 15 = .ok (.ireturn, 1) := by decide +kernel
theorem dX4_init_0 : decode cX4_init 0 = .ok (.aload_n 0, 1) := by decide +kernel
theorem dX4_init_1 : decode cX4_init 1 = .ok (.invokespecial 3, 3) := by decide +kernel
theorem dX4_init_4 : decode cX4_init 4 = .ok (.aload_n 0, 1) := by decide +kernel
theorem dX4_init_5 : decode cX4_init 5 = .ok (.bipush 6, 2) := by decide +kernel
theorem dX4_init_7 : decode cX4_init 7 = .ok (.newarray .int, 2) := by decide +kernel
theorem dX4_init_9 : decode cX4_init 9 = .ok (.putfield 9, 3) := by decide +kernel
theorem dX4_init_12 : decode cX4_init 12 = .ok (.aload_n 0, 1) := by decide +kernel
theorem dX4_init_13 : decode cX4_init 13 = .ok (.bipush 6, 2) := by decide +kernel
theorem dX4_init_15 : decode cX4_init 15 = .ok (.newarray .int, 2) := by decide +kernel
theorem dX4_init_17 : decode cX4_init 17 = .ok (.putfield 15, 3) := by decide +kernel
theorem dX4_init_20 : decode cX4_init 20 = .ok (.aload_n 0, 1) := by decide +kernel
theorem dX4_init_21 : decode cX4_init 21 = .ok (.bipush 6, 2) := by decide +kernel
theorem dX4_init_23 : decode cX4_init 23 = .ok (.newarray .int, 2) := by decide +kernel
theorem dX4_init_25 : decode cX4_init 25 = .ok (.putfield 18, 3) := by decide +kernel
theorem dX4_init_28 : decode cX4_init 28 = .ok (.aload_n 0, 1) := by decide +kernel
theorem dX4_init_29 : decode cX4_init 29 = .ok (.bipush 6, 2) := by decide +kernel
theorem dX4_init_31 : decode cX4_init 31 = .ok (.newarray .int, 2) := by decide +kernel
theorem dX4_init_33 : decode cX4_init 33 = .ok (.putfield 21, 3) := by decide +kernel
theorem dX4_init_36 : decode cX4_init 36 = .ok (.aload_n 0, 1) := by decide +kernel
theorem dX4_init_37 : decode cX4_init 37 = .ok (.bipush 6, 2) := by decide +kernel
theorem dX4_init_39 : decode cX4_init 39 = .ok (.newarray .int, 2) := by decide +kernel
theorem dX4_init_41 : decode cX4_init 41 = .ok (.putfield 24, 3) := by decide +kernel
theorem dX4_init_44 : decode cX4_init 44 = .ok (.aload_n 0, 1) := by decide +kernel
theorem dX4_init_45 : decode cX4_init 45 = .ok (.bipush 8, 2) := by decide +kernel
theorem dX4_init_47 : decode cX4_init 47 = .ok (.newarray .int, 2) := by decide +kernel
theorem dX4_init_49 : decode cX4_init 49 = .ok (.putfield 27, 3) := by decide +kernel
theorem dX4_init_52 : decode cX4_init 52 = .ok (.aload_n 0, 1) := by decide +kernel
theorem dX4_init_53 : decode cX4_init 53 = .ok (.bipush 8, 2) := by decide +kernel
theorem dX4_init_55 : decode cX4_init 55 = .ok (.newarray .int, 2) := by decide +kernel
theorem dX4_init_57 : decode cX4_init 57 = .ok (.putfield 30, 3) := by decide +kernel
theorem dX4_init_60 : decode cX4_init 60 = .ok (.aload_n 0, 1) := by decide +kernel
theorem dX4_init_61 : decode cX4_init 61 = .ok (.aload_n 1, 1) := by decide +kernel
theorem dX4_init_62 : decode cX4_init 62 = .ok (.putfield 33, 3) := by decide +kernel
theorem dX4_init_65 : decode cX4_init 65 = .ok (.return_, 1) := by decide +kernel
theorem dX4_begin_0 : decode cX4_begin 0 = .ok (.aload_n 0, 1) := by decide +kernel
theorem dX4_begin_1 : decode cX4_begin 1 = .ok (.iload_n 1, 1) := by decide +kernel
theorem dX4_begin_2 : decode cX4_begin 2 = .ok (.putfield 37, 3) := by decide +kernel
theorem dX4_begin_5 : decode cX4_begin 5 = .ok (.aload_n 0, 1) := by decide +kernel
theorem dX4_begin_6 : decode cX4_begin 6 = .ok (.iload_n 2, 1) := by decide +kernel
theorem dX4_begin_7 : decode cX4_begin 7 = .ok (.putfield 41, 3) := by decide +kernel
theorem dX4_begin_10 : decode cX4_begin 10 = .ok (.aload_n 0, 1) := by decide +kernel
theorem dX4_begin_11 : decode cX4_begin 11 = .ok (.iconst 0, 1) := by decide +kernel
theorem dX4_begin_12 : decode cX4_begin 12 = .ok (.putfield 44, 3) := by decide +kernel
theorem dX4_begin_15 : decode cX4_begin 15 = .ok (.aload_n 0, 1) := by decide +kernel
theorem dX4_begin_16 : decode cX4_begin 16 = .ok (.iconst 0, 1) := by decide +kernel
theorem dX4_begin_17 : decode cX4_begin 17 = .ok (.putfield 47, 3) := by decide +kernel
theorem dX4_begin_20 : decode cX4_begin 20 = .ok (.return_, 1) := by decide +kernel
theorem dX4_add_0 : decode cX4_add 0 = .ok (.aload_n 0, 1) := by decide +kernel
theorem dX4_add_1 : decode cX4_add 1 = .ok (.getfield 44, 3) := by decide +kernel
theorem dX4_add_4 : decode cX4_add 4 = .ok (.bipush 6, 2) := by decide +kernel
theorem dX4_add_6 : decode cX4_add 6 = .ok (.if_icmp .ge 64, 3) := by decide +kernel
theorem dX4_add_9 : decode cX4_add 9 = .ok (.aload_n 0, 1) := by decide +kernel
theorem dX4_add_10 : decode cX4_add 10 = .ok (.getfield 9, 3) := by decide +kernel
theorem dX4_add_13 : decode cX4_add 13 = .ok (.aload_n 0, 1) := by decide +kernel
theorem dX4_add_14 : decode cX4_add 14 = .ok (.getfield 44, 3) := by decide +kernel
theorem dX4_add_17 : decode cX4_add 17 = .ok (.iload_n 1, 1) := by decide +kernel
theorem dX4_add_18 : decode cX4_add 18 = .ok (.iastore, 1) := by decide +kernel
theorem dX4_add_19 : decode cX4_add 19 = .ok (.aload_n 0, 1) := by decide +kernel
theorem dX4_add_20 : decode cX4_add 20 = .ok (.getfield 15, 3) := by decide +kernel
theorem dX4_add_23 : decode cX4_add 23 = .ok (.aload_n 0, 1) := by decide +kernel
theorem dX4_add_24 : decode cX4_add 24 = .ok (.getfield 44, 3) := by decide +kernel
theorem dX4_add_27 : decode cX4_add 27 = .ok (.iload_n 2, 1) := by decide +kernel
theorem dX4_add_28 : decode cX4_add 28 = .ok (.iastore, 1) := by decide +kernel
theorem dX4_add_29 : decode cX4_add 29 = .ok (.aload_n 0, 1) := by decide +kernel
theorem dX4_add_30 : decode cX4_add 30 = .ok (.getfield 18, 3) := by decide +kernel
theorem dX4_add_33 : decode cX4_add 33 = .ok (.aload_n 0, 1) := by decide +kernel
theorem dX4_add_34 : decode cX4_add 34 = .ok (.getfield 44, 3) := by decide +kernel
theorem dX4_add_37 : decode cX4_add 37 = .ok (.iload_n 3, 1) := by decide +kernel
theorem dX4_add_38 : decode cX4_add 38 = .ok (.iastore, 1) := by decide +kernel
theorem dX4_add_39 : decode cX4_add 39 = .ok (.aload_n 0, 1) := by decide +kernel
theorem dX4_add_40 : decode cX4_add 40 = .ok (.getfield 21, 3) := by decide +kernel
theorem dX4_add_43 : decode cX4_add 43 = .ok (.aload_n 0, 1) := by decide +kernel
theorem dX4_add_44 : decode cX4_add 44 = .ok (.getfield 44, 3) := by decide +kernel
theorem dX4_add_47 : decode cX4_add 47 = .ok (.iload 4, 2) := by decide +kernel
theorem dX4_add_49 : decode cX4_add 49 = .ok (.iastore, 1) := by decide +kernel
theorem dX4_add_50 : decode cX4_add 50 = .ok (.aload_n 0, 1) := by decide +kernel
theorem dX4_add_51 : decode cX4_add 51 = .ok (.getfield 24, 3) := by decide +kernel
theorem dX4_add_54 : decode cX4_add 54 = .ok (.aload_n 0, 1) := by decide +kernel
theorem dX4_add_55 : decode cX4_add 55 = .ok (.getfield 44, 3) := by decide +kernel
theorem dX4_add_58 : decode cX4_add 58 = .ok (.iconst 0, 1) := by decide +kernel
theorem dX4_add_59 : decode cX4_add 59 = .ok (.iastore, 1) := by decide +kernel
theorem dX4_add_60 : decode cX4_add 60 = .ok (.aload_n 0, 1) := by decide +kernel
theorem dX4_add_61 : decode cX4_add 61 = .ok (.dup, 1) := by decide +kernel
theorem dX4_add_62 : decode cX4_add 62 = .ok (.getfield 44, 3) := by decide +kernel
theorem dX4_add_65 : decode cX4_add 65 = .ok (.iconst 1, 1) := by decide +kernel
theorem dX4_add_66 : decode cX4_add 66 = .ok (.iadd, 1) := by decide +kernel
theorem dX4_add_67 : decode cX4_add 67 = .ok (.putfield 44, 3) := by decide +kernel
theorem dX4_add_70 : decode cX4_add 70 = .ok (.return_, 1) := by decide +kernel
theorem dX4_become_0 : decode cX4_become 0 = .ok (.aload_n 0, 1) := by decide +kernel
theorem dX4_become_1 : decode cX4_become 1 = .ok (.aload_n 1, 1) := by decide +kernel
theorem dX4_become_2 : decode cX4_become 2 = .ok (.getfield 37, 3) := by decide +kernel
theorem dX4_become_5 : decode cX4_become 5 = .ok (.putfield 37, 3) := by decide +kernel
theorem dX4_become_8 : decode cX4_become 8 = .ok (.aload_n 0, 1) := by decide +kernel
theorem dX4_become_9 : decode cX4_become 9 = .ok (.aload_n 1, 1) := by decide +kernel
theorem dX4_become_10 : decode cX4_become 10 = .ok (.getfield 41, 3) := by decide +kernel
theorem dX4_become_13 : decode cX4_become 13 = .ok (.putfield 41, 3) := by decide +kernel
theorem dX4_become_16 : decode cX4_become 16 = .ok (.aload_n 0, 1) := by decide +kernel
theorem dX4_become_17 : decode cX4_become 17 = .ok (.aload_n 1, 1) := by decide +kernel
theorem dX4_become_18 : decode cX4_become 18 = .ok (.getfield 44, 3) := by decide +kernel
theorem dX4_become_21 : decode cX4_become 21 = .ok (.putfield 44, 3) := by decide +kernel
theorem dX4_become_24 : decode cX4_become 24 = .ok (.aload_n 0, 1) := by decide +kernel
theorem dX4_become_25 : decode cX4_become 25 = .ok (.aload_n 1, 1) := by decide +kernel
theorem dX4_become_26 : decode cX4_become 26 = .ok (.getfield 47, 3) := by decide +kernel
theorem dX4_become_29 : decode cX4_become 29 = .ok (.putfield 47, 3) := by decide +kernel
theorem dX4_become_32 : decode cX4_become 32 = .ok (.aload_n 1, 1) := by decide +kernel
theorem dX4_become_33 : decode cX4_become 33 = .ok (.getfield 9, 3) := by decide +kernel
theorem dX4_become_36 : decode cX4_become 36 = .ok (.iconst 0, 1) := by decide +kernel
theorem dX4_become_37 : decode cX4_become 37 = .ok (.aload_n 0, 1) := by decide +kernel
theorem dX4_become_38 : decode cX4_become 38 = .ok (.getfield 9, 3) := by decide +kernel
theorem dX4_become_41 : decode cX4_become 41 = .ok (.iconst 0, 1) := by decide +kernel
theorem dX4_become_42 : decode cX4_become 42 = .ok (.bipush 6, 2) := by decide +kernel
theorem dX4_become_44 : decode cX4_become 44 = .ok (.invokestatic 50, 3) := by decide +kernel
theorem dX4_become_47 : decode cX4_become 47 = .ok (.aload_n 1, 1) := by decide +kernel
theorem dX4_become_48 : decode cX4_become 48 = .ok (.getfield 15, 3) := by decide +kernel
theorem dX4_become_51 : decode cX4_become 51 = .ok (.iconst 0, 1) := by decide +kernel
theorem dX4_become_52 : decode cX4_become 52 = .ok (.aload_n 0, 1) := by decide +kernel
theorem dX4_become_53 : decode cX4_become 53 = .ok (.getfield 15, 3) := by decide +kernel
theorem dX4_become_56 : decode cX4_become 56 = .ok (.iconst 0, 1) := by decide +kernel
theorem dX4_become_57 : decode cX4_become 57 = .ok (.bipush 6, 2) := by decide +kernel
theorem dX4_become_59 : decode cX4_become 59 = .ok (.invokestatic 50, 3) := by decide +kernel
theorem dX4_become_62 : decode cX4_become 62 = .ok (.aload_n 1, 1) := by decide +kernel
theorem dX4_become_63 : decode cX4_become 63 = .ok (.getfield 18, 3) := by decide +kernel
theorem dX4_become_66 : decode cX4_become 66 = .ok (.iconst 0, 1) := by decide +kernel
theorem dX4_become_67 : decode cX4_become 67 = .ok (.aload_n 0, 1) := by decide +kernel
theorem dX4_become_68 : decode cX4_become 68 = .ok (.getfield 18, 3) := by decide +kernel
theorem dX4_become_71 : decode cX4_become 71 = .ok (.iconst 0, 1) := by decide +kernel
theorem dX4_become_72 : decode cX4_become 72 = .ok (.bipush 6, 2) := by decide +kernel
theorem dX4_become_74 : decode cX4_become 74 = .ok (.invokestatic 50, 3) := by decide +kernel
theorem dX4_become_77 : decode cX4_become 77 = .ok (.aload_n 1, 1) := by decide +kernel
theorem dX4_become_78 : decode cX4_become 78 = .ok (.getfield 21, 3) := by decide +kernel
theorem dX4_become_81 : decode cX4_become 81 = .ok (.iconst 0, 1) := by decide +kernel
theorem dX4_become_82 : decode cX4_become 82 = .ok (.aload_n 0, 1) := by decide +kernel
theorem dX4_become_83 : decode cX4_become 83 = .ok (.getfield 21, 3) := by decide +kernel
theorem dX4_become_86 : decode cX4_become 86 = .ok (.iconst 0, 1) := by decide +kernel
theorem dX4_become_87 : decode cX4_become 87 = .ok (.bipush 6, 2) := by decide +kernel
theorem dX4_become_89 : decode cX4_become 89 = .ok (.invokestatic 50, 3) := by decide +kernel
theorem dX4_become_92 : decode cX4_become 92 = .ok (.aload_n 1, 1) := by decide +kernel
theorem dX4_become_93 : decode cX4_become 93 = .ok (.getfield 24, 3) := by decide +kernel
theorem dX4_become_96 : decode cX4_become 96 = .ok (.iconst 0, 1) := by decide +kernel
theorem dX4_become_97 : decode cX4_become 97 = .ok (.aload_n 0, 1) := by decide +kernel
theorem dX4_become_98 : decode cX4_become 98 = .ok (.getfield 24, 3) := by decide +kernel
theorem dX4_become_101 : decode cX4_become 101 = .ok (.iconst 0, 1) := by decide +kernel
theorem dX4_become_102 : decode cX4_become 102 = .ok (.bipush 6, 2) := by decide +kernel
theorem dX4_become_104 : decode cX4_become 104 = .ok (.invokestatic 50, 3) := by decide +kernel
theorem dX4_become_107 : decode cX4_become 107 = .ok (.return_, 1) := by decide +kernel
theorem dX4_waiter_0 : decode cX4_waiter 0 = .ok (.aload_n 0, 1) := by decide +kernel
theorem dX4_waiter_1 : decode cX4_waiter 1 = .ok (.getfield 33, 3) := by decide +kernel
theorem dX4_waiter_4 : decode cX4_waiter 4 = .ok (.aload_n 0, 1) := by decide +kernel
theorem dX4_waiter_5 : decode cX4_waiter 5 = .ok (.getfield 9, 3) := by decide +kernel
theorem dX4_waiter_8 : decode cX4_waiter 8 = .ok (.iload_n 1, 1) := by decide +kernel
theorem dX4_waiter_9 : decode cX4_waiter 9 = .ok (.iaload, 1) := by decide +kernel
theorem dX4_waiter_10 : decode cX4_waiter 10 = .ok (.iconst 1, 1) := by decide +kernel
theorem dX4_waiter_11 : decode cX4_waiter 11 = .ok (.isub, 1) := by decide +kernel
theorem dX4_waiter_12 : decode cX4_waiter 12 = .ok (.aaload, 1) := by decide +kernel
theorem dX4_waiter_13 : decode cX4_waiter 13 = .ok (.areturn, 1) := by decide +kernel
theorem dX4_everybody_0 : decode cX4_everybody 0 = .ok (.iconst 1, 1) := by decide +kernel
theorem dX4_everybody_1 : decode cX4_everybody 1 = .ok (.aload_n 0, 1) := by decide +kernel
theorem dX4_everybody_2 : decode cX4_everybody 2 = .ok (.getfield 44, 3) := by decide +kernel
theorem dX4_everybody_5 : decode cX4_everybody 5 = .ok (.ishl, 1) := by decide +kernel
theorem dX4_everybody_6 : decode cX4_everybody 6 = .ok (.iconst 1, 1) := by decide +kernel
theorem dX4_everybody_7 : decode cX4_everybody 7 = .ok (.isub, 1) := by decide +kernel
theorem dX4_everybody_8 : decode cX4_everybody 8 = .ok (.ireturn, 1) := by decide +kernel
theorem dX4_thereBits_0 : decode cX4_thereBits 0 = .ok (.iconst 0, 1) := by decide +kernel
theorem dX4_thereBits_1 : decode cX4_thereBits 1 = .ok (.istore_n 1, 1) := by decide +kernel
theorem dX4_thereBits_2 : decode cX4_thereBits 2 = .ok (.iconst 0, 1) := by decide +kernel
theorem dX4_thereBits_3 : decode cX4_thereBits 3 = .ok (.istore_n 2, 1) := by decide +kernel
theorem dX4_thereBits_4 : decode cX4_thereBits 4 = .ok (.iload_n 2, 1) := by decide +kernel
theorem dX4_thereBits_5 : decode cX4_thereBits 5 = .ok (.aload_n 0, 1) := by decide +kernel
theorem dX4_thereBits_6 : decode cX4_thereBits 6 = .ok (.getfield 44, 3) := by decide +kernel
theorem dX4_thereBits_9 : decode cX4_thereBits 9 = .ok (.if_icmp .ge 30, 3) := by decide +kernel
theorem dX4_thereBits_12 : decode cX4_thereBits 12 = .ok (.aload_n 0, 1) := by decide +kernel
theorem dX4_thereBits_13 : decode cX4_thereBits 13 = .ok (.getfield 15, 3) := by decide +kernel
theorem dX4_thereBits_16 : decode cX4_thereBits 16 = .ok (.iload_n 2, 1) := by decide +kernel
theorem dX4_thereBits_17 : decode cX4_thereBits 17 = .ok (.iaload, 1) := by decide +kernel
theorem dX4_thereBits_18 : decode cX4_thereBits 18 = .ok (.aload_n 0, 1) := by decide +kernel
theorem dX4_thereBits_19 : decode cX4_thereBits 19 = .ok (.getfield 21, 3) := by decide +kernel
theorem dX4_thereBits_22 : decode cX4_thereBits 22 = .ok (.iload_n 2, 1) := by decide +kernel
theorem dX4_thereBits_23 : decode cX4_thereBits 23 = .ok (.iaload, 1) := by decide +kernel
theorem dX4_thereBits_24 : decode cX4_thereBits 24 = .ok (.if_icmp .ne 9, 3) := by decide +kernel
theorem dX4_thereBits_27 : decode cX4_thereBits 27 = .ok (.iload_n 1, 1) := by decide +kernel
theorem dX4_thereBits_28 : decode cX4_thereBits 28 = .ok (.iconst 1, 1) := by decide +kernel
theorem dX4_thereBits_29 : decode cX4_thereBits 29 = .ok (.iload_n 2, 1) := by decide +kernel
theorem dX4_thereBits_30 : decode cX4_thereBits 30 = .ok (.ishl, 1) := by decide +kernel
theorem dX4_thereBits_31 : decode cX4_thereBits 31 = .ok (.ior, 1) := by decide +kernel
theorem dX4_thereBits_32 : decode cX4_thereBits 32 = .ok (.istore_n 1, 1) := by decide +kernel
theorem dX4_thereBits_33 : decode cX4_thereBits 33 = .ok (.iinc 2 1, 3) := by decide +kernel
theorem dX4_thereBits_36 : decode cX4_thereBits 36 = .ok (.goto (-32), 3) := by decide +kernel
theorem dX4_thereBits_39 : decode cX4_thereBits 39 = .ok (.iload_n 1, 1) := by decide +kernel
theorem dX4_thereBits_40 : decode cX4_thereBits 40 = .ok (.ireturn, 1) := by decide +kernel
theorem dX4_whoIsAt_0 : decode cX4_whoIsAt 0 = .ok (.iconst 0, 1) := by decide +kernel
theorem dX4_whoIsAt_1 : decode cX4_whoIsAt 1 = .ok (.istore_n 2, 1) := by decide +kernel
theorem dX4_whoIsAt_2 : decode cX4_whoIsAt 2 = .ok (.iconst 0, 1) := by decide +kernel
theorem dX4_whoIsAt_3 : decode cX4_whoIsAt 3 = .ok (.istore_n 3, 1) := by decide +kernel
theorem dX4_whoIsAt_4 : decode cX4_whoIsAt 4 = .ok (.iload_n 3, 1) := by decide +kernel
theorem dX4_whoIsAt_5 : decode cX4_whoIsAt 5 = .ok (.aload_n 0, 1) := by decide +kernel
theorem dX4_whoIsAt_6 : decode cX4_whoIsAt 6 = .ok (.getfield 44, 3) := by decide +kernel
theorem dX4_whoIsAt_9 : decode cX4_whoIsAt 9 = .ok (.if_icmp .ge 25, 3) := by decide +kernel
theorem dX4_whoIsAt_12 : decode cX4_whoIsAt 12 = .ok (.aload_n 0, 1) := by decide +kernel
theorem dX4_whoIsAt_13 : decode cX4_whoIsAt 13 = .ok (.getfield 15, 3) := by decide +kernel
theorem dX4_whoIsAt_16 : decode cX4_whoIsAt 16 = .ok (.iload_n 3, 1) := by decide +kernel
theorem dX4_whoIsAt_17 : decode cX4_whoIsAt 17 = .ok (.iaload, 1) := by decide +kernel
theorem dX4_whoIsAt_18 : decode cX4_whoIsAt 18 = .ok (.iload_n 1, 1) := by decide +kernel
theorem dX4_whoIsAt_19 : decode cX4_whoIsAt 19 = .ok (.if_icmp .ne 9, 3) := by decide +kernel
theorem dX4_whoIsAt_22 : decode cX4_whoIsAt 22 = .ok (.iload_n 2, 1) := by decide +kernel
theorem dX4_whoIsAt_23 : decode cX4_whoIsAt 23 = .ok (.iconst 1, 1) := by decide +kernel
theorem dX4_whoIsAt_24 : decode cX4_whoIsAt 24 = .ok (.iload_n 3, 1) := by decide +kernel
theorem dX4_whoIsAt_25 : decode cX4_whoIsAt 25 = .ok (.ishl, 1) := by decide +kernel
theorem dX4_whoIsAt_26 : decode cX4_whoIsAt 26 = .ok (.ior, 1) := by decide +kernel
theorem dX4_whoIsAt_27 : decode cX4_whoIsAt 27 = .ok (.istore_n 2, 1) := by decide +kernel
theorem dX4_whoIsAt_28 : decode cX4_whoIsAt 28 = .ok (.iinc 3 1, 3) := by decide +kernel
theorem dX4_whoIsAt_31 : decode cX4_whoIsAt 31 = .ok (.goto (-27), 3) := by decide +kernel
theorem dX4_whoIsAt_34 : decode cX4_whoIsAt 34 = .ok (.iload_n 2, 1) := by decide +kernel
theorem dX4_whoIsAt_35 : decode cX4_whoIsAt 35 = .ok (.ireturn, 1) := by decide +kernel
theorem dX4_hopeOf_0 : decode cX4_hopeOf 0 = .ok (.aload_n 0, 1) := by decide +kernel
theorem dX4_hopeOf_1 : decode cX4_hopeOf 1 = .ok (.aload_n 0, 1) := by decide +kernel
theorem dX4_hopeOf_2 : decode cX4_hopeOf 2 = .ok (.getfield 15, 3) := by decide +kernel
theorem dX4_hopeOf_5 : decode cX4_hopeOf 5 = .ok (.iload_n 1, 1) := by decide +kernel
theorem dX4_hopeOf_6 : decode cX4_hopeOf 6 = .ok (.iaload, 1) := by decide +kernel
theorem dX4_hopeOf_7 : decode cX4_hopeOf 7 = .ok (.invokevirtual 56, 3) := by decide +kernel
theorem dX4_hopeOf_10 : decode cX4_hopeOf 10 = .ok (.invokestatic 60, 3) := by decide +kernel
theorem dX4_hopeOf_13 : decode cX4_hopeOf 13 = .ok (.iconst 1, 1) := by decide +kernel
theorem dX4_hopeOf_14 : decode cX4_hopeOf 14 = .ok (.isub, 1) := by decide +kernel
theorem dX4_hopeOf_15 : decode cX4_hopeOf 15 = .ok (.istore_n 2, 1) := by decide +kernel
theorem dX4_hopeOf_16 : decode cX4_hopeOf 16 = .ok (.aload_n 0, 1) := by decide +kernel
theorem dX4_hopeOf_17 : decode cX4_hopeOf 17 = .ok (.iload_n 1, 1) := by decide +kernel
theorem dX4_hopeOf_18 : decode cX4_hopeOf 18 = .ok (.invokevirtual 65, 3) := by decide +kernel
theorem dX4_hopeOf_21 : decode cX4_hopeOf 21 = .ok (.aload_n 0, 1) := by decide +kernel
theorem dX4_hopeOf_22 : decode cX4_hopeOf 22 = .ok (.getfield 18, 3) := by decide +kernel
theorem dX4_hopeOf_25 : decode cX4_hopeOf 25 = .ok (.iload_n 1, 1) := by decide +kernel
theorem dX4_hopeOf_26 : decode cX4_hopeOf 26 = .ok (.iaload, 1) := by decide +kernel
theorem dX4_hopeOf_27 : decode cX4_hopeOf 27 = .ok (.aload_n 0, 1) := by decide +kernel
theorem dX4_hopeOf_28 : decode cX4_hopeOf 28 = .ok (.getfield 24, 3) := by decide +kernel
theorem dX4_hopeOf_31 : decode cX4_hopeOf 31 = .ok (.iload_n 1, 1) := by decide +kernel
theorem dX4_hopeOf_32 : decode cX4_hopeOf 32 = .ok (.iaload, 1) := by decide +kernel
theorem dX4_hopeOf_33 : decode cX4_hopeOf 33 = .ok (.iload_n 2, 1) := by decide +kernel
theorem dX4_hopeOf_34 : decode cX4_hopeOf 34 = .ok (.invokevirtual 69, 3) := by decide +kernel
theorem dX4_hopeOf_37 : decode cX4_hopeOf 37 = .ok (.ireturn, 1) := by decide +kernel
theorem dX4_hopeAt_0 : decode cX4_hopeAt 0 = .ok (.aload_n 0, 1) := by decide +kernel
theorem dX4_hopeAt_1 : decode cX4_hopeAt 1 = .ok (.iconst 0, 1) := by decide +kernel
theorem dX4_hopeAt_2 : decode cX4_hopeAt 2 = .ok (.invokevirtual 75, 3) := by decide +kernel
theorem dX4_hopeAt_5 : decode cX4_hopeAt 5 = .ok (.aload_n 0, 1) := by decide +kernel
theorem dX4_hopeAt_6 : decode cX4_hopeAt 6 = .ok (.getfield 30, 3) := by decide +kernel
theorem dX4_hopeAt_9 : decode cX4_hopeAt 9 = .ok (.iload_n 1, 1) := by decide +kernel
theorem dX4_hopeAt_10 : decode cX4_hopeAt 10 = .ok (.iaload, 1) := by decide +kernel
theorem dX4_hopeAt_11 : decode cX4_hopeAt 11 = .ok (.ireturn, 1) := by decide +kernel
theorem dX4_holdingBits_0 : decode cX4_holdingBits 0 = .ok (.aload_n 0, 1) := by decide +kernel
theorem dX4_holdingBits_1 : decode cX4_holdingBits 1 = .ok (.iconst 0, 1) := by decide +kernel
theorem dX4_holdingBits_2 : decode cX4_holdingBits 2 = .ok (.invokevirtual 75, 3) := by decide +kernel
theorem dX4_holdingBits_5 : decode cX4_holdingBits 5 = .ok (.iconst 0, 1) := by decide +kernel
theorem dX4_holdingBits_6 : decode cX4_holdingBits 6 = .ok (.istore_n 1, 1) := by decide +kernel
theorem dX4_holdingBits_7 : decode cX4_holdingBits 7 = .ok (.iconst 0, 1) := by decide +kernel
theorem dX4_holdingBits_8 : decode cX4_holdingBits 8 = .ok (.istore_n 2, 1) := by decide +kernel
theorem dX4_holdingBits_9 : decode cX4_holdingBits 9 = .ok (.iload_n 2, 1) := by decide +kernel
theorem dX4_holdingBits_10 : decode cX4_holdingBits 10 = .ok (.aload_n 0, 1) := by decide +kernel
theorem dX4_holdingBits_11 : decode cX4_holdingBits 11 = .ok (.getfield 37, 3) := by decide +kernel
theorem dX4_holdingBits_14 : decode cX4_holdingBits 14 = .ok (.if_icmp .ge 28, 3) := by decide +kernel
theorem dX4_holdingBits_17 : decode cX4_holdingBits 17 = .ok (.aload_n 0, 1) := by decide +kernel
theorem dX4_holdingBits_18 : decode cX4_holdingBits 18 = .ok (.getfield 30, 3) := by decide +kernel
theorem dX4_holdingBits_21 : decode cX4_holdingBits 21 = .ok (.iload_n 2, 1) := by decide +kernel
theorem dX4_holdingBits_22 : decode cX4_holdingBits 22 = .ok (.iaload, 1) := by decide +kernel
theorem dX4_holdingBits_23 : decode cX4_holdingBits 23 = .ok (.aload_n 0, 1) := by decide +kernel
theorem dX4_holdingBits_24 : decode cX4_holdingBits 24 = .ok (.invokevirtual 79, 3) := by decide +kernel
theorem dX4_holdingBits_27 : decode cX4_holdingBits 27 = .ok (.if_icmp .lt 9, 3) := by decide +kernel
theorem dX4_holdingBits_30 : decode cX4_holdingBits 30 = .ok (.iload_n 1, 1) := by decide +kernel
theorem dX4_holdingBits_31 : decode cX4_holdingBits 31 = .ok (.iconst 1, 1) := by decide +kernel
theorem dX4_holdingBits_32 : decode cX4_holdingBits 32 = .ok (.iload_n 2, 1) := by decide +kernel
theorem dX4_holdingBits_33 : decode cX4_holdingBits 33 = .ok (.ishl, 1) := by decide +kernel
theorem dX4_holdingBits_34 : decode cX4_holdingBits 34 = .ok (.ior, 1) := by decide +kernel
theorem dX4_holdingBits_35 : decode cX4_holdingBits 35 = .ok (.istore_n 1, 1) := by decide +kernel
theorem dX4_holdingBits_36 : decode cX4_holdingBits 36 = .ok (.iinc 2 1, 3) := by decide +kernel
theorem dX4_holdingBits_39 : decode cX4_holdingBits 39 = .ok (.goto (-30), 3) := by decide +kernel
theorem dX4_holdingBits_42 : decode cX4_holdingBits 42 = .ok (.iload_n 1, 1) := by decide +kernel
theorem dX4_holdingBits_43 : decode cX4_holdingBits 43 = .ok (.ireturn, 1) := by decide +kernel
theorem dX4_tramWithout_0 : decode cX4_tramWithout 0 = .ok (.aload_n 0, 1) := by decide +kernel
theorem dX4_tramWithout_1 : decode cX4_tramWithout 1 = .ok (.iload_n 1, 1) := by decide +kernel
theorem dX4_tramWithout_2 : decode cX4_tramWithout 2 = .ok (.invokevirtual 75, 3) := by decide +kernel
theorem dX4_tramWithout_5 : decode cX4_tramWithout 5 = .ok (.iconst (-1), 1) := by decide +kernel
theorem dX4_tramWithout_6 : decode cX4_tramWithout 6 = .ok (.istore_n 2, 1) := by decide +kernel
theorem dX4_tramWithout_7 : decode cX4_tramWithout 7 = .ok (.aload_n 0, 1) := by decide +kernel
theorem dX4_tramWithout_8 : decode cX4_tramWithout 8 = .ok (.invokevirtual 79, 3) := by decide +kernel
theorem dX4_tramWithout_11 : decode cX4_tramWithout 11 = .ok (.iconst 1, 1) := by decide +kernel
theorem dX4_tramWithout_12 : decode cX4_tramWithout 12 = .ok (.isub, 1) := by decide +kernel
theorem dX4_tramWithout_13 : decode cX4_tramWithout 13 = .ok (.istore_n 3, 1) := by decide +kernel
theorem dX4_tramWithout_14 : decode cX4_tramWithout 14 = .ok (.iconst 0, 1) := by decide +kernel
theorem dX4_tramWithout_15 : decode cX4_tramWithout 15 = .ok (.istore 4, 2) := by decide +kernel
theorem dX4_tramWithout_17 : decode cX4_tramWithout 17 = .ok (.iload 4, 2) := by decide +kernel
theorem dX4_tramWithout_19 : decode cX4_tramWithout 19 = .ok (.aload_n 0, 1) := by decide +kernel
theorem dX4_tramWithout_20 : decode cX4_tramWithout 20 = .ok (.getfield 37, 3) := by decide +kernel
theorem dX4_tramWithout_23 : decode cX4_tramWithout 23 = .ok (.if_icmp .ge 31, 3) := by decide +kernel
theorem dX4_tramWithout_26 : decode cX4_tramWithout 26 = .ok (.aload_n 0, 1) := by decide +kernel
theorem dX4_tramWithout_27 : decode cX4_tramWithout 27 = .ok (.getfield 30, 3) := by decide +kernel
theorem dX4_tramWithout_30 : decode cX4_tramWithout 30 = .ok (.iload 4, 2) := by decide +kernel
theorem dX4_tramWithout_32 : decode cX4_tramWithout 32 = .ok (.iaload, 1) := by decide +kernel
theorem dX4_tramWithout_33 : decode cX4_tramWithout 33 = .ok (.iload_n 3, 1) := by decide +kernel
theorem dX4_tramWithout_34 : decode cX4_tramWithout 34 = .ok (.if_icmp .le 14, 3) := by decide +kernel
theorem dX4_tramWithout_37 : decode cX4_tramWithout 37 = .ok (.iload 4, 2) := by decide +kernel
theorem dX4_tramWithout_39 : decode cX4_tramWithout 39 = .ok (.istore_n 2, 1) := by decide +kernel
theorem dX4_tramWithout_40 : decode cX4_tramWithout 40 = .ok (.aload_n 0, 1) := by decide +kernel
theorem dX4_tramWithout_41 : decode cX4_tramWithout 41 = .ok (.getfield 30, 3) := by decide +kernel
theorem dX4_tramWithout_44 : decode cX4_tramWithout 44 = .ok (.iload 4, 2) := by decide +kernel
theorem dX4_tramWithout_46 : decode cX4_tramWithout 46 = .ok (.iaload, 1) := by decide +kernel
theorem dX4_tramWithout_47 : decode cX4_tramWithout 47 = .ok (.istore_n 3, 1) := by decide +kernel
theorem dX4_tramWithout_48 : decode cX4_tramWithout 48 = .ok (.iinc 4 1, 3) := by decide +kernel
theorem dX4_tramWithout_51 : decode cX4_tramWithout 51 = .ok (.goto (-34), 3) := by decide +kernel
theorem dX4_tramWithout_54 : decode cX4_tramWithout 54 = .ok (.iload_n 2, 1) := by decide +kernel
theorem dX4_tramWithout_55 : decode cX4_tramWithout 55 = .ok (.ireturn, 1) := by decide +kernel
theorem dX4_pass_0 : decode cX4_pass 0 = .ok (.aload_n 0, 1) := by decide +kernel
theorem dX4_pass_1 : decode cX4_pass 1 = .ok (.iconst 0, 1) := by decide +kernel
theorem dX4_pass_2 : decode cX4_pass 2 = .ok (.invokevirtual 83, 3) := by decide +kernel
theorem dX4_pass_5 : decode cX4_pass 5 = .ok (.istore_n 2, 1) := by decide +kernel
theorem dX4_pass_6 : decode cX4_pass 6 = .ok (.iconst 0, 1) := by decide +kernel
theorem dX4_pass_7 : decode cX4_pass 7 = .ok (.istore_n 3, 1) := by decide +kernel
theorem dX4_pass_8 : decode cX4_pass 8 = .ok (.iload_n 3, 1) := by decide +kernel
theorem dX4_pass_9 : decode cX4_pass 9 = .ok (.aload_n 0, 1) := by decide +kernel
theorem dX4_pass_10 : decode cX4_pass 10 = .ok (.getfield 44, 3) := by decide +kernel
theorem dX4_pass_13 : decode cX4_pass 13 = .ok (.if_icmp .ge 103, 3) := by decide +kernel
theorem dX4_pass_16 : decode cX4_pass 16 = .ok (.aload_n 0, 1) := by decide +kernel
theorem dX4_pass_17 : decode cX4_pass 17 = .ok (.getfield 15, 3) := by decide +kernel
theorem dX4_pass_20 : decode cX4_pass 20 = .ok (.iload_n 3, 1) := by decide +kernel
theorem dX4_pass_21 : decode cX4_pass 21 = .ok (.iaload, 1) := by decide +kernel
theorem dX4_pass_22 : decode cX4_pass 22 = .ok (.aload_n 0, 1) := by decide +kernel
theorem dX4_pass_23 : decode cX4_pass 23 = .ok (.getfield 21, 3) := by decide +kernel
theorem dX4_pass_26 : decode cX4_pass 26 = .ok (.iload_n 3, 1) := by decide +kernel
theorem dX4_pass_27 : decode cX4_pass 27 = .ok (.iaload, 1) := by decide +kernel
theorem dX4_pass_28 : decode cX4_pass 28 = .ok (.if_icmp .eq 63, 3) := by decide +kernel
theorem dX4_pass_31 : decode cX4_pass 31 = .ok (.aload_n 0, 1) := by decide +kernel
theorem dX4_pass_32 : decode cX4_pass 32 = .ok (.getfield 15, 3) := by decide +kernel
theorem dX4_pass_35 : decode cX4_pass 35 = .ok (.iload_n 3, 1) := by decide +kernel
theorem dX4_pass_36 : decode cX4_pass 36 = .ok (.iaload, 1) := by decide +kernel
theorem dX4_pass_37 : decode cX4_pass 37 = .ok (.iload_n 2, 1) := by decide +kernel
theorem dX4_pass_38 : decode cX4_pass 38 = .ok (.if_icmp .eq 11, 3) := by decide +kernel
theorem dX4_pass_41 : decode cX4_pass 41 = .ok (.iload_n 1, 1) := by decide +kernel
theorem dX4_pass_42 : decode cX4_pass 42 = .ok (.iload_n 3, 1) := by decide +kernel
theorem dX4_pass_43 : decode cX4_pass 43 = .ok (.invokestatic 86, 3) := by decide +kernel
theorem dX4_pass_46 : decode cX4_pass 46 = .ok (.ifCond .eq 45, 3) := by decide +kernel
theorem dX4_pass_49 : decode cX4_pass 49 = .ok (.aload_n 0, 1) := by decide +kernel
theorem dX4_pass_50 : decode cX4_pass 50 = .ok (.iload_n 3, 1) := by decide +kernel
theorem dX4_pass_51 : decode cX4_pass 51 = .ok (.aload_n 0, 1) := by decide +kernel
theorem dX4_pass_52 : decode cX4_pass 52 = .ok (.getfield 15, 3) := by decide +kernel
theorem dX4_pass_55 : decode cX4_pass 55 = .ok (.iload_n 3, 1) := by decide +kernel
theorem dX4_pass_56 : decode cX4_pass 56 = .ok (.iaload, 1) := by decide +kernel
theorem dX4_pass_57 : decode cX4_pass 57 = .ok (.aload_n 0, 1) := by decide +kernel
theorem dX4_pass_58 : decode cX4_pass 58 = .ok (.getfield 21, 3) := by decide +kernel
theorem dX4_pass_61 : decode cX4_pass 61 = .ok (.iload_n 3, 1) := by decide +kernel
theorem dX4_pass_62 : decode cX4_pass 62 = .ok (.iaload, 1) := by decide +kernel
theorem dX4_pass_63 : decode cX4_pass 63 = .ok (.if_icmp .ge 14, 3) := by decide +kernel
theorem dX4_pass_66 : decode cX4_pass 66 = .ok (.aload_n 0, 1) := by decide +kernel
theorem dX4_pass_67 : decode cX4_pass 67 = .ok (.getfield 15, 3) := by decide +kernel
theorem dX4_pass_70 : decode cX4_pass 70 = .ok (.iload_n 3, 1) := by decide +kernel
theorem dX4_pass_71 : decode cX4_pass 71 = .ok (.iaload, 1) := by decide +kernel
theorem dX4_pass_72 : decode cX4_pass 72 = .ok (.iconst 1, 1) := by decide +kernel
theorem dX4_pass_73 : decode cX4_pass 73 = .ok (.iadd, 1) := by decide +kernel
theorem dX4_pass_74 : decode cX4_pass 74 = .ok (.goto 11, 3) := by decide +kernel
theorem dX4_pass_77 : decode cX4_pass 77 = .ok (.aload_n 0, 1) := by decide +kernel
theorem dX4_pass_78 : decode cX4_pass 78 = .ok (.getfield 15, 3) := by decide +kernel
theorem dX4_pass_81 : decode cX4_pass 81 = .ok (.iload_n 3, 1) := by decide +kernel
theorem dX4_pass_82 : decode cX4_pass 82 = .ok (.iaload, 1) := by decide +kernel
theorem dX4_pass_83 : decode cX4_pass 83 = .ok (.iconst 1, 1) := by decide +kernel
theorem dX4_pass_84 : decode cX4_pass 84 = .ok (.isub, 1) := by decide +kernel
theorem dX4_pass_85 : decode cX4_pass 85 = .ok (.invokevirtual 90, 3) := by decide +kernel
theorem dX4_pass_88 : decode cX4_pass 88 = .ok (.goto 22, 3) := by decide +kernel
theorem dX4_pass_91 : decode cX4_pass 91 = .ok (.aload_n 0, 1) := by decide +kernel
theorem dX4_pass_92 : decode cX4_pass 92 = .ok (.getfield 24, 3) := by decide +kernel
theorem dX4_pass_95 : decode cX4_pass 95 = .ok (.iload_n 3, 1) := by decide +kernel
theorem dX4_pass_96 : decode cX4_pass 96 = .ok (.aload_n 0, 1) := by decide +kernel
theorem dX4_pass_97 : decode cX4_pass 97 = .ok (.getfield 24, 3) := by decide +kernel
theorem dX4_pass_100 : decode cX4_pass 100 = .ok (.iload_n 3, 1) := by decide +kernel
theorem dX4_pass_101 : decode cX4_pass 101 = .ok (.iaload, 1) := by decide +kernel
theorem dX4_pass_102 : decode cX4_pass 102 = .ok (.iconst 1, 1) := by decide +kernel
theorem dX4_pass_103 : decode cX4_pass 103 = .ok (.iadd, 1) := by decide +kernel
theorem dX4_pass_104 : decode cX4_pass 104 = .ok (.bipush 99, 2) := by decide +kernel
theorem dX4_pass_106 : decode cX4_pass 106 = .ok (.invokestatic 94, 3) := by decide +kernel
theorem dX4_pass_109 : decode cX4_pass 109 = .ok (.iastore, 1) := by decide +kernel
theorem dX4_pass_110 : decode cX4_pass 110 = .ok (.iinc 3 1, 3) := by decide +kernel
theorem dX4_pass_113 : decode cX4_pass 113 = .ok (.goto (-105), 3) := by decide +kernel
theorem dX4_pass_116 : decode cX4_pass 116 = .ok (.aload_n 0, 1) := by decide +kernel
theorem dX4_pass_117 : decode cX4_pass 117 = .ok (.dup, 1) := by decide +kernel
theorem dX4_pass_118 : decode cX4_pass 118 = .ok (.getfield 47, 3) := by decide +kernel
theorem dX4_pass_121 : decode cX4_pass 121 = .ok (.iconst 1, 1) := by decide +kernel
theorem dX4_pass_122 : decode cX4_pass 122 = .ok (.iadd, 1) := by decide +kernel
theorem dX4_pass_123 : decode cX4_pass 123 = .ok (.putfield 47, 3) := by decide +kernel
theorem dX4_pass_126 : decode cX4_pass 126 = .ok (.iload_n 2, 1) := by decide +kernel
theorem dX4_pass_127 : decode cX4_pass 127 = .ok (.ireturn, 1) := by decide +kernel
theorem dX4_moveTo_0 : decode cX4_moveTo 0 = .ok (.aload_n 0, 1) := by decide +kernel
theorem dX4_moveTo_1 : decode cX4_moveTo 1 = .ok (.getfield 15, 3) := by decide +kernel
theorem dX4_moveTo_4 : decode cX4_moveTo 4 = .ok (.iload_n 1, 1) := by decide +kernel
theorem dX4_moveTo_5 : decode cX4_moveTo 5 = .ok (.iload_n 2, 1) := by decide +kernel
theorem dX4_moveTo_6 : decode cX4_moveTo 6 = .ok (.iastore, 1) := by decide +kernel
theorem dX4_moveTo_7 : decode cX4_moveTo 7 = .ok (.aload_n 0, 1) := by decide +kernel
theorem dX4_moveTo_8 : decode cX4_moveTo 8 = .ok (.getfield 24, 3) := by decide +kernel
theorem dX4_moveTo_11 : decode cX4_moveTo 11 = .ok (.iload_n 1, 1) := by decide +kernel
theorem dX4_moveTo_12 : decode cX4_moveTo 12 = .ok (.iconst 0, 1) := by decide +kernel
theorem dX4_moveTo_13 : decode cX4_moveTo 13 = .ok (.iastore, 1) := by decide +kernel
theorem dX4_moveTo_14 : decode cX4_moveTo 14 = .ok (.return_, 1) := by decide +kernel
theorem dX4_leastHope_0 : decode cX4_leastHope 0 = .ok (.aload_n 0, 1) := by decide +kernel
theorem dX4_leastHope_1 : decode cX4_leastHope 1 = .ok (.getfield 41, 3) := by decide +kernel
theorem dX4_leastHope_4 : decode cX4_leastHope 4 = .ok (.iconst 1, 1) := by decide +kernel
theorem dX4_leastHope_5 : decode cX4_leastHope 5 = .ok (.invokestatic 100, 3) := by decide +kernel
theorem dX4_leastHope_8 : decode cX4_leastHope 8 = .ok (.ireturn, 1) := by decide +kernel
theorem dX4_tellHopes_0 : decode cX4_tellHopes 0 = .ok (.aload_n 0, 1) := by decide +kernel
theorem dX4_tellHopes_1 : decode cX4_tellHopes 1 = .ok (.invokevirtual 103, 3) := by decide +kernel
theorem dX4_tellHopes_4 : decode cX4_tellHopes 4 = .ok (.aload_n 0, 1) := by decide +kernel
theorem dX4_tellHopes_5 : decode cX4_tellHopes 5 = .ok (.getfield 30, 3) := by decide +kernel
theorem dX4_tellHopes_8 : decode cX4_tellHopes 8 = .ok (.iconst 0, 1) := by decide +kernel
theorem dX4_tellHopes_9 : decode cX4_tellHopes 9 = .ok (.invokestatic 106, 3) := by decide +kernel
theorem dX4_tellHopes_12 : decode cX4_tellHopes 12 = .ok (.iconst 0, 1) := by decide +kernel
theorem dX4_tellHopes_13 : decode cX4_tellHopes 13 = .ok (.istore_n 2, 1) := by decide +kernel
theorem dX4_tellHopes_14 : decode cX4_tellHopes 14 = .ok (.iload_n 2, 1) := by decide +kernel
theorem dX4_tellHopes_15 : decode cX4_tellHopes 15 = .ok (.aload_n 0, 1) := by decide +kernel
theorem dX4_tellHopes_16 : decode cX4_tellHopes 16 = .ok (.getfield 44, 3) := by decide +kernel
theorem dX4_tellHopes_19 : decode cX4_tellHopes 19 = .ok (.if_icmp .ge 64, 3) := by decide +kernel
theorem dX4_tellHopes_22 : decode cX4_tellHopes 22 = .ok (.iload_n 1, 1) := by decide +kernel
theorem dX4_tellHopes_23 : decode cX4_tellHopes 23 = .ok (.iload_n 2, 1) := by decide +kernel
theorem dX4_tellHopes_24 : decode cX4_tellHopes 24 = .ok (.invokestatic 86, 3) := by decide +kernel
theorem dX4_tellHopes_27 : decode cX4_tellHopes 27 = .ok (.ifCond .ne 50, 3) := by decide +kernel
theorem dX4_tellHopes_30 : decode cX4_tellHopes 30 = .ok (.aload_n 0, 1) := by decide +kernel
theorem dX4_tellHopes_31 : decode cX4_tellHopes 31 = .ok (.getfield 30, 3) := by decide +kernel
theorem dX4_tellHopes_34 : decode cX4_tellHopes 34 = .ok (.aload_n 0, 1) := by decide +kernel
theorem dX4_tellHopes_35 : decode cX4_tellHopes 35 = .ok (.getfield 15, 3) := by decide +kernel
theorem dX4_tellHopes_38 : decode cX4_tellHopes 38 = .ok (.iload_n 2, 1) := by decide +kernel
theorem dX4_tellHopes_39 : decode cX4_tellHopes 39 = .ok (.iaload, 1) := by decide +kernel
theorem dX4_tellHopes_40 : decode cX4_tellHopes 40 = .ok (.dup2, 1) := by decide +kernel
theorem dX4_tellHopes_41 : decode cX4_tellHopes 41 = .ok (.iaload, 1) := by decide +kernel
theorem dX4_tellHopes_42 : decode cX4_tellHopes 42 = .ok (.aload_n 0, 1) := by decide +kernel
theorem dX4_tellHopes_43 : decode cX4_tellHopes 43 = .ok (.iload_n 2, 1) := by decide +kernel
theorem dX4_tellHopes_44 : decode cX4_tellHopes 44 = .ok (.invokevirtual 65, 3) := by decide +kernel
theorem dX4_tellHopes_47 : decode cX4_tellHopes 47 = .ok (.aload_n 0, 1) := by decide +kernel
theorem dX4_tellHopes_48 : decode cX4_tellHopes 48 = .ok (.getfield 18, 3) := by decide +kernel
theorem dX4_tellHopes_51 : decode cX4_tellHopes 51 = .ok (.iload_n 2, 1) := by decide +kernel
theorem dX4_tellHopes_52 : decode cX4_tellHopes 52 = .ok (.iaload, 1) := by decide +kernel
theorem dX4_tellHopes_53 : decode cX4_tellHopes 53 = .ok (.aload_n 0, 1) := by decide +kernel
theorem dX4_tellHopes_54 : decode cX4_tellHopes 54 = .ok (.getfield 24, 3) := by decide +kernel
theorem dX4_tellHopes_57 : decode cX4_tellHopes 57 = .ok (.iload_n 2, 1) := by decide +kernel
theorem dX4_tellHopes_58 : decode cX4_tellHopes 58 = .ok (.iaload, 1) := by decide +kernel
theorem dX4_tellHopes_59 : decode cX4_tellHopes 59 = .ok (.aload_n 0, 1) := by decide +kernel
theorem dX4_tellHopes_60 : decode cX4_tellHopes 60 = .ok (.getfield 27, 3) := by decide +kernel
theorem dX4_tellHopes_63 : decode cX4_tellHopes 63 = .ok (.aload_n 0, 1) := by decide +kernel
theorem dX4_tellHopes_64 : decode cX4_tellHopes 64 = .ok (.getfield 15, 3) := by decide +kernel
theorem dX4_tellHopes_67 : decode cX4_tellHopes 67 = .ok (.iload_n 2, 1) := by decide +kernel
theorem dX4_tellHopes_68 : decode cX4_tellHopes 68 = .ok (.iaload, 1) := by decide +kernel
theorem dX4_tellHopes_69 : decode cX4_tellHopes 69 = .ok (.iaload, 1) := by decide +kernel
theorem dX4_tellHopes_70 : decode cX4_tellHopes 70 = .ok (.iconst 1, 1) := by decide +kernel
theorem dX4_tellHopes_71 : decode cX4_tellHopes 71 = .ok (.isub, 1) := by decide +kernel
theorem dX4_tellHopes_72 : decode cX4_tellHopes 72 = .ok (.invokevirtual 69, 3) := by decide +kernel
theorem dX4_tellHopes_75 : decode cX4_tellHopes 75 = .ok (.iadd, 1) := by decide +kernel
theorem dX4_tellHopes_76 : decode cX4_tellHopes 76 = .ok (.iastore, 1) := by decide +kernel
theorem dX4_tellHopes_77 : decode cX4_tellHopes 77 = .ok (.iinc 2 1, 3) := by decide +kernel
theorem dX4_tellHopes_80 : decode cX4_tellHopes 80 = .ok (.goto (-66), 3) := by decide +kernel
theorem dX4_tellHopes_83 : decode cX4_tellHopes 83 = .ok (.return_, 1) := by decide +kernel
theorem dX4_tellCrowds_0 : decode cX4_tellCrowds 0 = .ok (.aload_n 0, 1) := by decide +kernel
theorem dX4_tellCrowds_1 : decode cX4_tellCrowds 1 = .ok (.getfield 27, 3) := by decide +kernel
theorem dX4_tellCrowds_4 : decode cX4_tellCrowds 4 = .ok (.iconst 0, 1) := by decide +kernel
theorem dX4_tellCrowds_5 : decode cX4_tellCrowds 5 = .ok (.invokestatic 106, 3) := by decide +kernel
theorem dX4_tellCrowds_8 : decode cX4_tellCrowds 8 = .ok (.iconst 0, 1) := by decide +kernel
theorem dX4_tellCrowds_9 : decode cX4_tellCrowds 9 = .ok (.istore_n 1, 1) := by decide +kernel
theorem dX4_tellCrowds_10 : decode cX4_tellCrowds 10 = .ok (.iload_n 1, 1) := by decide +kernel
theorem dX4_tellCrowds_11 : decode cX4_tellCrowds 11 = .ok (.aload_n 0, 1) := by decide +kernel
theorem dX4_tellCrowds_12 : decode cX4_tellCrowds 12 = .ok (.getfield 44, 3) := by decide +kernel
theorem dX4_tellCrowds_15 : decode cX4_tellCrowds 15 = .ok (.if_icmp .ge 24, 3) := by decide +kernel
theorem dX4_tellCrowds_18 : decode cX4_tellCrowds 18 = .ok (.aload_n 0, 1) := by decide +kernel
theorem dX4_tellCrowds_19 : decode cX4_tellCrowds 19 = .ok (.getfield 27, 3) := by decide +kernel
theorem dX4_tellCrowds_22 : decode cX4_tellCrowds 22 = .ok (.aload_n 0, 1) := by decide +kernel
theorem dX4_tellCrowds_23 : decode cX4_tellCrowds 23 = .ok (.getfield 15, 3) := by decide +kernel
theorem dX4_tellCrowds_26 : decode cX4_tellCrowds 26 = .ok (.iload_n 1, 1) := by decide +kernel
theorem dX4_tellCrowds_27 : decode cX4_tellCrowds 27 = .ok (.iaload, 1) := by decide +kernel
theorem dX4_tellCrowds_28 : decode cX4_tellCrowds 28 = .ok (.dup2, 1) := by decide +kernel
theorem dX4_tellCrowds_29 : decode cX4_tellCrowds 29 = .ok (.iaload, 1) := by decide +kernel
theorem dX4_tellCrowds_30 : decode cX4_tellCrowds 30 = .ok (.iconst 1, 1) := by decide +kernel
theorem dX4_tellCrowds_31 : decode cX4_tellCrowds 31 = .ok (.iadd, 1) := by decide +kernel
theorem dX4_tellCrowds_32 : decode cX4_tellCrowds 32 = .ok (.iastore, 1) := by decide +kernel
theorem dX4_tellCrowds_33 : decode cX4_tellCrowds 33 = .ok (.iinc 1 1, 3) := by decide +kernel
theorem dX4_tellCrowds_36 : decode cX4_tellCrowds 36 = .ok (.goto (-26), 3) := by decide +kernel
theorem dX4_tellCrowds_39 : decode cX4_tellCrowds 39 = .ok (.return_, 1) := by decide +kernel
theorem dX5_init_0 : decode cX5_init 0 = .ok (.aload_n 0, 1) := by decide +kernel
theorem dX5_init_1 : decode cX5_init 1 = .ok (.invokespecial 3, 3) := by decide +kernel
theorem dX5_init_4 : decode cX5_init 4 = .ok (.aload_n 0, 1) := by decide +kernel
theorem dX5_init_5 : decode cX5_init 5 = .ok (.sipush 600, 3) := by decide +kernel
theorem dX5_init_8 : decode cX5_init 8 = .ok (.newarray .int, 2) := by decide +kernel
theorem dX5_init_10 : decode cX5_init 10 = .ok (.putfield 11, 3) := by decide +kernel
theorem dX5_init_13 : decode cX5_init 13 = .ok (.return_, 1) := by decide +kernel
theorem dX5_forget_0 : decode cX5_forget 0 = .ok (.aload_n 0, 1) := by decide +kernel
theorem dX5_forget_1 : decode cX5_forget 1 = .ok (.iconst 0, 1) := by decide +kernel
theorem dX5_forget_2 : decode cX5_forget 2 = .ok (.putfield 15, 3) := by decide +kernel
theorem dX5_forget_5 : decode cX5_forget 5 = .ok (.return_, 1) := by decide +kernel
theorem dX5_keep_0 : decode cX5_keep 0 = .ok (.aload_n 0, 1) := by decide +kernel
theorem dX5_keep_1 : decode cX5_keep 1 = .ok (.getfield 15, 3) := by decide +kernel
theorem dX5_keep_4 : decode cX5_keep 4 = .ok (.bipush 24, 2) := by decide +kernel
theorem dX5_keep_6 : decode cX5_keep 6 = .ok (.if_icmp .ne 26, 3) := by decide +kernel
theorem dX5_keep_9 : decode cX5_keep 9 = .ok (.aload_n 0, 1) := by decide +kernel
theorem dX5_keep_10 : decode cX5_keep 10 = .ok (.aload_n 0, 1) := by decide +kernel
theorem dX5_keep_11 : decode cX5_keep 11 = .ok (.getfield 19, 3) := by decide +kernel
theorem dX5_keep_14 : decode cX5_keep 14 = .ok (.iconst 1, 1) := by decide +kernel
theorem dX5_keep_15 : decode cX5_keep 15 = .ok (.iadd, 1) := by decide +kernel
theorem dX5_keep_16 : decode cX5_keep 16 = .ok (.bipush 24, 2) := by decide +kernel
theorem dX5_keep_18 : decode cX5_keep 18 = .ok (.irem, 1) := by decide +kernel
theorem dX5_keep_19 : decode cX5_keep 19 = .ok (.putfield 19, 3) := by decide +kernel
theorem dX5_keep_22 : decode cX5_keep 22 = .ok (.aload_n 0, 1) := by decide +kernel
theorem dX5_keep_23 : decode cX5_keep 23 = .ok (.dup, 1) := by decide +kernel
theorem dX5_keep_24 : decode cX5_keep 24 = .ok (.getfield 15, 3) := by decide +kernel
theorem dX5_keep_27 : decode cX5_keep 27 = .ok (.iconst 1, 1) := by decide +kernel
theorem dX5_keep_28 : decode cX5_keep 28 = .ok (.isub, 1) := by decide +kernel
theorem dX5_keep_29 : decode cX5_keep 29 = .ok (.putfield 15, 3) := by decide +kernel
theorem dX5_keep_32 : decode cX5_keep 32 = .ok (.aload_n 0, 1) := by decide +kernel
theorem dX5_keep_33 : decode cX5_keep 33 = .ok (.aload_n 0, 1) := by decide +kernel
theorem dX5_keep_34 : decode cX5_keep 34 = .ok (.getfield 15, 3) := by decide +kernel
theorem dX5_keep_37 : decode cX5_keep 37 = .ok (.invokevirtual 22, 3) := by decide +kernel
theorem dX5_keep_40 : decode cX5_keep 40 = .ok (.istore_n 2, 1) := by decide +kernel
theorem dX5_keep_41 : decode cX5_keep 41 = .ok (.aload_n 0, 1) := by decide +kernel
theorem dX5_keep_42 : decode cX5_keep 42 = .ok (.getfield 11, 3) := by decide +kernel
theorem dX5_keep_45 : decode cX5_keep 45 = .ok (.iload_n 2, 1) := by decide +kernel
theorem dX5_keep_46 : decode cX5_keep 46 = .ok (.aload_n 1, 1) := by decide +kernel
theorem dX5_keep_47 : decode cX5_keep 47 = .ok (.getfield 26, 3) := by decide +kernel
theorem dX5_keep_50 : decode cX5_keep 50 = .ok (.iastore, 1) := by decide +kernel
theorem dX5_keep_51 : decode cX5_keep 51 = .ok (.aload_n 1, 1) := by decide +kernel
theorem dX5_keep_52 : decode cX5_keep 52 = .ok (.getfield 31, 3) := by decide +kernel
theorem dX5_keep_55 : decode cX5_keep 55 = .ok (.iconst 0, 1) := by decide +kernel
theorem dX5_keep_56 : decode cX5_keep 56 = .ok (.aload_n 0, 1) := by decide +kernel
theorem dX5_keep_57 : decode cX5_keep 57 = .ok (.getfield 11, 3) := by decide +kernel
theorem dX5_keep_60 : decode cX5_keep 60 = .ok (.iload_n 2, 1) := by decide +kernel
theorem dX5_keep_61 : decode cX5_keep 61 = .ok (.iconst 1, 1) := by decide +kernel
theorem dX5_keep_62 : decode cX5_keep 62 = .ok (.iadd, 1) := by decide +kernel
theorem dX5_keep_63 : decode cX5_keep 63 = .ok (.bipush 6, 2) := by decide +kernel
theorem dX5_keep_65 : decode cX5_keep 65 = .ok (.invokestatic 34, 3) := by decide +kernel
theorem dX5_keep_68 : decode cX5_keep 68 = .ok (.aload_n 1, 1) := by decide +kernel
theorem dX5_keep_69 : decode cX5_keep 69 = .ok (.getfield 40, 3) := by decide +kernel
theorem dX5_keep_72 : decode cX5_keep 72 = .ok (.iconst 0, 1) := by decide +kernel
theorem dX5_keep_73 : decode cX5_keep 73 = .ok (.aload_n 0, 1) := by decide +kernel
theorem dX5_keep_74 : decode cX5_keep 74 = .ok (.getfield 11, 3) := by decide +kernel
theorem dX5_keep_77 : decode cX5_keep 77 = .ok (.iload_n 2, 1) := by decide +kernel
theorem dX5_keep_78 : decode cX5_keep 78 = .ok (.iconst 1, 1) := by decide +kernel
theorem dX5_keep_79 : decode cX5_keep 79 = .ok (.iadd, 1) := by decide +kernel
theorem dX5_keep_80 : decode cX5_keep 80 = .ok (.bipush 6, 2) := by decide +kernel
theorem dX5_keep_82 : decode cX5_keep 82 = .ok (.iadd, 1) := by decide +kernel
theorem dX5_keep_83 : decode cX5_keep 83 = .ok (.bipush 6, 2) := by decide +kernel
theorem dX5_keep_85 : decode cX5_keep 85 = .ok (.invokestatic 34, 3) := by decide +kernel
theorem dX5_keep_88 : decode cX5_keep 88 = .ok (.aload_n 1, 1) := by decide +kernel
theorem dX5_keep_89 : decode cX5_keep 89 = .ok (.getfield 43, 3) := by decide +kernel
theorem dX5_keep_92 : decode cX5_keep 92 = .ok (.iconst 0, 1) := by decide +kernel
theorem dX5_keep_93 : decode cX5_keep 93 = .ok (.aload_n 0, 1) := by decide +kernel
theorem dX5_keep_94 : decode cX5_keep 94 = .ok (.getfield 11, 3) := by decide +kernel
theorem dX5_keep_97 : decode cX5_keep 97 = .ok (.iload_n 2, 1) := by decide +kernel
theorem dX5_keep_98 : decode cX5_keep 98 = .ok (.iconst 1, 1) := by decide +kernel
theorem dX5_keep_99 : decode cX5_keep 99 = .ok (.iadd, 1) := by decide +kernel
theorem dX5_keep_100 : decode cX5_keep 100 = .ok (.bipush 12, 2) := by decide +kernel
theorem dX5_keep_102 : decode cX5_keep 102 = .ok (.iadd, 1) := by decide +kernel
theorem dX5_keep_103 : decode cX5_keep 103 = .ok (.bipush 6, 2) := by decide +kernel
theorem dX5_keep_105 : decode cX5_keep 105 = .ok (.invokestatic 34, 3) := by decide +kernel
theorem dX5_keep_108 : decode cX5_keep 108 = .ok (.aload_n 1, 1) := by decide +kernel
theorem dX5_keep_109 : decode cX5_keep 109 = .ok (.getfield 46, 3) := by decide +kernel
theorem dX5_keep_112 : decode cX5_keep 112 = .ok (.iconst 0, 1) := by decide +kernel
theorem dX5_keep_113 : decode cX5_keep 113 = .ok (.aload_n 0, 1) := by decide +kernel
theorem dX5_keep_114 : decode cX5_keep 114 = .ok (.getfield 11, 3) := by decide +kernel
theorem dX5_keep_117 : decode cX5_keep 117 = .ok (.iload_n 2, 1) := by decide +kernel
theorem dX5_keep_118 : decode cX5_keep 118 = .ok (.iconst 1, 1) := by decide +kernel
theorem dX5_keep_119 : decode cX5_keep 119 = .ok (.iadd, 1) := by decide +kernel
theorem dX5_keep_120 : decode cX5_keep 120 = .ok (.bipush 18, 2) := by decide +kernel
theorem dX5_keep_122 : decode cX5_keep 122 = .ok (.iadd, 1) := by decide +kernel
theorem dX5_keep_123 : decode cX5_keep 123 = .ok (.bipush 6, 2) := by decide +kernel
theorem dX5_keep_125 : decode cX5_keep 125 = .ok (.invokestatic 34, 3) := by decide +kernel
theorem dX5_keep_128 : decode cX5_keep 128 = .ok (.aload_n 0, 1) := by decide +kernel
theorem dX5_keep_129 : decode cX5_keep 129 = .ok (.dup, 1) := by decide +kernel
theorem dX5_keep_130 : decode cX5_keep 130 = .ok (.getfield 15, 3) := by decide +kernel
theorem dX5_keep_133 : decode cX5_keep 133 = .ok (.iconst 1, 1) := by decide +kernel
theorem dX5_keep_134 : decode cX5_keep 134 = .ok (.iadd, 1) := by decide +kernel
theorem dX5_keep_135 : decode cX5_keep 135 = .ok (.putfield 15, 3) := by decide +kernel
theorem dX5_keep_138 : decode cX5_keep 138 = .ok (.return_, 1) := by decide +kernel
theorem dX5_takeBack_0 : decode cX5_takeBack 0 = .ok (.aload_n 0, 1) := by decide +kernel
theorem dX5_takeBack_1 : decode cX5_takeBack 1 = .ok (.getfield 15, 3) := by decide +kernel
theorem dX5_takeBack_4 : decode cX5_takeBack 4 = .ok (.ifCond .le 109, 3) := by decide +kernel
theorem dX5_takeBack_7 : decode cX5_takeBack 7 = .ok (.aload_n 0, 1) := by decide +kernel
theorem dX5_takeBack_8 : decode cX5_takeBack 8 = .ok (.dup, 1) := by decide +kernel
theorem dX5_takeBack_9 : decode cX5_takeBack 9 = .ok (.getfield 15, 3) := by decide +kernel
theorem dX5_takeBack_12 : decode cX5_takeBack 12 = .ok (.iconst 1, 1) := by decide +kernel
theorem dX5_takeBack_13 : decode cX5_takeBack 13 = .ok (.isub, 1) := by decide +kernel
theorem dX5_takeBack_14 : decode cX5_takeBack 14 = .ok (.putfield 15, 3) := by decide +kernel
theorem dX5_takeBack_17 : decode cX5_takeBack 17 = .ok (.aload_n 0, 1) := by decide +kernel
theorem dX5_takeBack_18 : decode cX5_takeBack 18 = .ok (.aload_n 0, 1) := by decide +kernel
theorem dX5_takeBack_19 : decode cX5_takeBack 19 = .ok (.getfield 15, 3) := by decide +kernel
theorem dX5_takeBack_22 : decode cX5_takeBack 22 = .ok (.invokevirtual 22, 3) := by decide +kernel
theorem dX5_takeBack_25 : decode cX5_takeBack 25 = .ok (.istore_n 2, 1) := by decide +kernel
theorem dX5_takeBack_26 : decode cX5_takeBack 26 = .ok (.aload_n 1, 1) := by decide +kernel
theorem dX5_takeBack_27 : decode cX5_takeBack 27 = .ok (.aload_n 0, 1) := by decide +kernel
theorem dX5_takeBack_28 : decode cX5_takeBack 28 = .ok (.getfield 11, 3) := by decide +kernel
theorem dX5_takeBack_31 : decode cX5_takeBack 31 = .ok (.iload_n 2, 1) := by decide +kernel
theorem dX5_takeBack_32 : decode cX5_takeBack 32 = .ok (.iaload, 1) := by decide +kernel
theorem dX5_takeBack_33 : decode cX5_takeBack 33 = .ok (.putfield 26, 3) := by decide +kernel
theorem dX5_takeBack_36 : decode cX5_takeBack 36 = .ok (.aload_n 0, 1) := by decide +kernel
theorem dX5_takeBack_37 : decode cX5_takeBack 37 = .ok (.getfield 11, 3) := by decide +kernel
theorem dX5_takeBack_40 : decode cX5_takeBack 40 = .ok (.iload_n 2, 1) := by decide +kernel
theorem dX5_takeBack_41 : decode cX5_takeBack 41 = .ok (.iconst 1, 1) := by decide +kernel
theorem dX5_takeBack_42 : decode cX5_takeBack 42 = .ok (.iadd, 1) := by decide +kernel
theorem dX5_takeBack_43 : decode cX5_takeBack 43 = .ok (.aload_n 1, 1) := by decide +kernel
theorem dX5_takeBack_44 : decode cX5_takeBack 44 = .ok (.getfield 31, 3) := by decide +kernel
theorem dX5_takeBack_47 : decode cX5_takeBack 47 = .ok (.iconst 0, 1) := by decide +kernel
theorem dX5_takeBack_48 : decode cX5_takeBack 48 = .ok (.bipush 6, 2) := by decide +kernel
theorem dX5_takeBack_50 : decode cX5_takeBack 50 = .ok (.invokestatic 34, 3) := by decide +kernel
theorem dX5_takeBack_53 : decode cX5_takeBack 53 = .ok (.aload_n 0, 1) := by decide +kernel
theorem dX5_takeBack_54 : decode cX5_takeBack 54 = .ok (.getfield 11, 3) := by decide +kernel
theorem dX5_takeBack_57 : decode cX5_takeBack 57 = .ok (.iload_n 2, 1) := by decide +kernel
theorem dX5_takeBack_58 : decode cX5_takeBack 58 = .ok (.iconst 1, 1) := by decide +kernel
theorem dX5_takeBack_59 : decode cX5_takeBack 59 = .ok (.iadd, 1) := by decide +kernel
theorem dX5_takeBack_60 : decode cX5_takeBack 60 = .ok (.bipush 6, 2) := by decide +kernel
theorem dX5_takeBack_62 : decode cX5_takeBack 62 = .ok (.iadd, 1) := by decide +kernel
theorem dX5_takeBack_63 : decode cX5_takeBack 63 = .ok (.aload_n 1, 1) := by decide +kernel
theorem dX5_takeBack_64 : decode cX5_takeBack 64 = .ok (.getfield 40, 3) := by decide +kernel
theorem dX5_takeBack_67 : decode cX5_takeBack 67 = .ok (.iconst 0, 1) := by decide +kernel
theorem dX5_takeBack_68 : decode cX5_takeBack 68 = .ok (.bipush 6, 2) := by decide +kernel
theorem dX5_takeBack_70 : decode cX5_takeBack 70 = .ok (.invokestatic 34, 3) := by decide +kernel
theorem dX5_takeBack_73 : decode cX5_takeBack 73 = .ok (.aload_n 0, 1) := by decide +kernel
theorem dX5_takeBack_74 : decode cX5_takeBack 74 = .ok (.getfield 11, 3) := by decide +kernel
theorem dX5_takeBack_77 : decode cX5_takeBack 77 = .ok (.iload_n 2, 1) := by decide +kernel
theorem dX5_takeBack_78 : decode cX5_takeBack 78 = .ok (.iconst 1, 1) := by decide +kernel
theorem dX5_takeBack_79 : decode cX5_takeBack 79 = .ok (.iadd, 1) := by decide +kernel
theorem dX5_takeBack_80 : decode cX5_takeBack 80 = .ok (.bipush 12, 2) := by decide +kernel
theorem dX5_takeBack_82 : decode cX5_takeBack 82 = .ok (.iadd, 1) := by decide +kernel
theorem dX5_takeBack_83 : decode cX5_takeBack 83 = .ok (.aload_n 1, 1) := by decide +kernel
theorem dX5_takeBack_84 : decode cX5_takeBack 84 = .ok (.getfield 43, 3) := by decide +kernel
theorem dX5_takeBack_87 : decode cX5_takeBack 87 = .ok (.iconst 0, 1) := by decide +kernel
theorem dX5_takeBack_88 : decode cX5_takeBack 88 = .ok (.bipush 6, 2) := by decide +kernel
theorem dX5_takeBack_90 : decode cX5_takeBack 90 = .ok (.invokestatic 34, 3) := by decide +kernel
theorem dX5_takeBack_93 : decode cX5_takeBack 93 = .ok (.aload_n 0, 1) := by decide +kernel
theorem dX5_takeBack_94 : decode cX5_takeBack 94 = .ok (.getfield 11, 3) := by decide +kernel
theorem dX5_takeBack_97 : decode cX5_takeBack 97 = .ok (.iload_n 2, 1) := by decide +kernel
theorem dX5_takeBack_98 : decode cX5_takeBack 98 = .ok (.iconst 1, 1) := by decide +kernel
theorem dX5_takeBack_99 : decode cX5_takeBack 99 = .ok (.iadd, 1) := by decide +kernel
theorem dX5_takeBack_100 : decode cX5_takeBack 100 = .ok (.bipush 18, 2) := by decide +kernel
theorem dX5_takeBack_102 : decode cX5_takeBack 102 = .ok (.iadd, 1) := by decide +kernel
theorem dX5_takeBack_103 : decode cX5_takeBack 103 = .ok (.aload_n 1, 1) := by decide +kernel
theorem dX5_takeBack_104 : decode cX5_takeBack 104 = .ok (.getfield 46, 3) := by decide +kernel
theorem dX5_takeBack_107 : decode cX5_takeBack 107 = .ok (.iconst 0, 1) := by decide +kernel
theorem dX5_takeBack_108 : decode cX5_takeBack 108 = .ok (.bipush 6, 2) := by decide +kernel
theorem dX5_takeBack_110 : decode cX5_takeBack 110 = .ok (.invokestatic 34, 3) := by decide +kernel
theorem dX5_takeBack_113 : decode cX5_takeBack 113 = .ok (.return_, 1) := by decide +kernel
theorem dX5_pageOf_0 : decode cX5_pageOf 0 = .ok (.aload_n 0, 1) := by decide +kernel
theorem dX5_pageOf_1 : decode cX5_pageOf 1 = .ok (.getfield 19, 3) := by decide +kernel
theorem dX5_pageOf_4 : decode cX5_pageOf 4 = .ok (.iload_n 1, 1) := by decide +kernel
theorem dX5_pageOf_5 : decode cX5_pageOf 5 = .ok (.iadd, 1) := by decide +kernel
theorem dX5_pageOf_6 : decode cX5_pageOf 6 = .ok (.bipush 24, 2) := by decide +kernel
theorem dX5_pageOf_8 : decode cX5_pageOf 8 = .ok (.irem, 1) := by decide +kernel
theorem dX5_pageOf_9 : decode cX5_pageOf 9 = .ok (.bipush 25, 2) := by decide +kernel
theorem dX5_pageOf_11 : decode cX5_pageOf 11 = .ok (.imul, 1) := by decide +kernel
theorem dX5_pageOf_12 : decode cX5_pageOf 12 = .ok (.ireturn, 1) := by decide +kernel
theorem dX6_init_0 : decode cX6_init 0 = .ok (.aload_n 0, 1) := by decide +kernel
theorem dX6_init_1 : decode cX6_init 1 = .ok (.invokespecial 1, 3) := by decide +kernel
theorem dX6_init_4 : decode cX6_init 4 = .ok (.return_, 1) := by decide +kernel
theorem dX6_hopesBy_0 : decode cX6_hopesBy 0 = .ok (.iload_n 1, 1) := by decide +kernel
theorem dX6_hopesBy_1 : decode cX6_hopesBy 1 = .ok (.ireturn, 1) := by decide +kernel
theorem dX6_askSize_0 : decode cX6_askSize 0 = .ok (.aload_n 1, 1) := by decide +kernel
theorem dX6_askSize_1 : decode cX6_askSize 1 = .ok (.bipush 11, 2) := by decide +kernel
theorem dX6_askSize_3 : decode cX6_askSize 3 = .ok (.invokevirtual 7, 3) := by decide +kernel
theorem dX6_askSize_6 : decode cX6_askSize 6 = .ok (.aload_n 0, 1) := by decide +kernel
theorem dX6_askSize_7 : decode cX6_askSize 7 = .ok (.aload_n 1, 1) := by decide +kernel
theorem dX6_askSize_8 : decode cX6_askSize 8 = .ok (.invokespecial 13, 3) := by decide +kernel
theorem dX6_askSize_11 : decode cX6_askSize 11 = .ok (.aload_n 0, 1) := by decide +kernel
theorem dX6_askSize_12 : decode cX6_askSize 12 = .ok (.aload_n 1, 1) := by decide +kernel
theorem dX6_askSize_13 : decode cX6_askSize 13 = .ok (.invokevirtual 17, 3) := by decide +kernel
theorem dX6_askSize_16 : decode cX6_askSize 16 = .ok (.iadd, 1) := by decide +kernel
theorem dX6_askSize_17 : decode cX6_askSize 17 = .ok (.ireturn, 1) := by decide +kernel
theorem dX6_askMark_0 : decode cX6_askMark 0 = .ok (.aload_n 1, 1) := by decide +kernel
theorem dX6_askMark_1 : decode cX6_askMark 1 = .ok (.bipush 21, 2) := by decide +kernel
theorem dX6_askMark_3 : decode cX6_askMark 3 = .ok (.invokevirtual 7, 3) := by decide +kernel
theorem dX6_askMark_6 : decode cX6_askMark 6 = .ok (.aload_n 0, 1) := by decide +kernel
theorem dX6_askMark_7 : decode cX6_askMark 7 = .ok (.aload_n 1, 1) := by decide +kernel
theorem dX6_askMark_8 : decode cX6_askMark 8 = .ok (.invokespecial 22, 3) := by decide +kernel
theorem dX6_askMark_11 : decode cX6_askMark 11 = .ok (.aload_n 1, 1) := by decide +kernel
theorem dX6_askMark_12 : decode cX6_askMark 12 = .ok (.getfield 23, 3) := by decide +kernel
theorem dX6_askMark_15 : decode cX6_askMark 15 = .ok (.iadd, 1) := by decide +kernel
theorem dX6_askMark_16 : decode cX6_askMark 16 = .ok (.ireturn, 1) := by decide +kernel
theorem dX7_init_0 : decode cX7_init 0 = .ok (.aload_n 0, 1) := by decide +kernel
theorem dX7_init_1 : decode cX7_init 1 = .ok (.invokespecial 1, 3) := by decide +kernel
theorem dX7_init_4 : decode cX7_init 4 = .ok (.return_, 1) := by decide +kernel
theorem dX7_hopesBy_0 : decode cX7_hopesBy 0 = .ok (.iload_n 3, 1) := by decide +kernel
theorem dX7_hopesBy_1 : decode cX7_hopesBy 1 = .ok (.ifCond .ne 8, 3) := by decide +kernel
theorem dX7_hopesBy_4 : decode cX7_hopesBy 4 = .ok (.bipush 13, 2) := by decide +kernel
theorem dX7_hopesBy_6 : decode cX7_hopesBy 6 = .ok (.goto 4, 3) := by decide +kernel
theorem dX7_hopesBy_9 : decode cX7_hopesBy 9 = .ok (.iconst 3, 1) := by decide +kernel
theorem dX7_hopesBy_10 : decode cX7_hopesBy 10 = .ok (.ireturn, 1) := by decide +kernel
theorem dX7_askSize_0 : decode cX7_askSize 0 = .ok (.aload_n 1, 1) := by decide +kernel
theorem dX7_askSize_1 : decode cX7_askSize 1 = .ok (.bipush 14, 2) := by decide +kernel
theorem dX7_askSize_3 : decode cX7_askSize 3 = .ok (.invokevirtual 7, 3) := by decide +kernel
theorem dX7_askSize_6 : decode cX7_askSize 6 = .ok (.iconst 2, 1) := by decide +kernel
theorem dX7_askSize_7 : decode cX7_askSize 7 = .ok (.aload_n 0, 1) := by decide +kernel
theorem dX7_askSize_8 : decode cX7_askSize 8 = .ok (.aload_n 1, 1) := by decide +kernel
theorem dX7_askSize_9 : decode cX7_askSize 9 = .ok (.invokespecial 13, 3) := by decide +kernel
theorem dX7_askSize_12 : decode cX7_askSize 12 = .ok (.imul, 1) := by decide +kernel
theorem dX7_askSize_13 : decode cX7_askSize 13 = .ok (.ireturn, 1) := by decide +kernel
theorem dX8_init_0 : decode cX8_init 0 = .ok (.aload_n 0, 1) := by decide +kernel
theorem dX8_init_1 : decode cX8_init 1 = .ok (.invokespecial 3, 3) := by decide +kernel
theorem dX8_init_4 : decode cX8_init 4 = .ok (.aload_n 0, 1) := by decide +kernel
theorem dX8_init_5 : decode cX8_init 5 = .ok (.bipush 8, 2) := by decide +kernel
theorem dX8_init_7 : decode cX8_init 7 = .ok (.bipush 40, 2) := by decide +kernel
theorem dX8_init_9 : decode cX8_init 9 = .ok (.multianewarray 9 2, 4) := by decide +kernel
theorem dX8_init_13 : decode cX8_init 13 = .ok (.putfield 11, 3) := by decide +kernel
theorem dX8_init_16 : decode cX8_init 16 = .ok (.aload_n 0, 1) := by decide +kernel
theorem dX8_init_17 : decode cX8_init 17 = .ok (.bipush 8, 2) := by decide +kernel
theorem dX8_init_19 : decode cX8_init 19 = .ok (.newarray .int, 2) := by decide +kernel
theorem dX8_init_21 : decode cX8_init 21 = .ok (.putfield 16, 3) := by decide +kernel
theorem dX8_init_24 : decode cX8_init 24 = .ok (.aload_n 0, 1) := by decide +kernel
theorem dX8_init_25 : decode cX8_init 25 = .ok (.bipush 8, 2) := by decide +kernel
theorem dX8_init_27 : decode cX8_init 27 = .ok (.newarray .int, 2) := by decide +kernel
theorem dX8_init_29 : decode cX8_init 29 = .ok (.putfield 20, 3) := by decide +kernel
theorem dX8_init_32 : decode cX8_init 32 = .ok (.aload_n 0, 1) := by decide +kernel
theorem dX8_init_33 : decode cX8_init 33 = .ok (.getfield 20, 3) := by decide +kernel
theorem dX8_init_36 : decode cX8_init 36 = .ok (.iconst (-1), 1) := by decide +kernel
theorem dX8_init_37 : decode cX8_init 37 = .ok (.invokestatic 23, 3) := by decide +kernel
theorem dX8_init_40 : decode cX8_init 40 = .ok (.return_, 1) := by decide +kernel
theorem dX8_isMissing_0 : decode cX8_isMissing 0 = .ok (.aload_n 0, 1) := by decide +kernel
theorem dX8_isMissing_1 : decode cX8_isMissing 1 = .ok (.getfield 20, 3) := by decide +kernel
theorem dX8_isMissing_4 : decode cX8_isMissing 4 = .ok (.iload_n 1, 1) := by decide +kernel
theorem dX8_isMissing_5 : decode cX8_isMissing 5 = .ok (.iaload, 1) := by decide +kernel
theorem dX8_isMissing_6 : decode cX8_isMissing 6 = .ok (.iconst (-1), 1) := by decide +kernel
theorem dX8_isMissing_7 : decode cX8_isMissing 7 = .ok (.if_icmp .ne 7, 3) := by decide +kernel
theorem dX8_isMissing_10 : decode cX8_isMissing 10 = .ok (.iconst 1, 1) := by decide +kernel
theorem dX8_isMissing_11 : decode cX8_isMissing 11 = .ok (.goto 4, 3) := by decide +kernel
theorem dX8_isMissing_14 : decode cX8_isMissing 14 = .ok (.iconst 0, 1) := by decide +kernel
theorem dX8_isMissing_15 : decode cX8_isMissing 15 = .ok (.ireturn, 1) := by decide +kernel
theorem dX8_howMany_0 : decode cX8_howMany 0 = .ok (.iconst 0, 1) := by decide +kernel
theorem dX8_howMany_1 : decode cX8_howMany 1 = .ok (.istore_n 1, 1) := by decide +kernel
theorem dX8_howMany_2 : decode cX8_howMany 2 = .ok (.iconst 0, 1) := by decide +kernel
theorem dX8_howMany_3 : decode cX8_howMany 3 = .ok (.istore_n 2, 1) := by decide +kernel
theorem dX8_howMany_4 : decode cX8_howMany 4 = .ok (.iload_n 2, 1) := by decide +kernel
theorem dX8_howMany_5 : decode cX8_howMany 5 = .ok (.bipush 8, 2) := by decide +kernel
theorem dX8_howMany_7 : decode cX8_howMany 7 = .ok (.if_icmp .ge 20, 3) := by decide +kernel
theorem dX8_howMany_10 : decode cX8_howMany 10 = .ok (.aload_n 0, 1) := by decide +kernel
theorem dX8_howMany_11 : decode cX8_howMany 11 = .ok (.iload_n 2, 1) := by decide +kernel
theorem dX8_howMany_12 : decode cX8_howMany 12 = .ok (.invokevirtual 29, 3) := by decide +kernel
theorem dX8_howMany_15 : decode cX8_howMany 15 = .ok (.ifCond .ne 6, 3) := by decide +kernel
theorem dX8_howMany_18 : decode cX8_howMany 18 = .ok (.iinc 1 1, 3) := by decide +kernel
theorem dX8_howMany_21 : decode cX8_howMany 21 = .ok (.iinc 2 1, 3) := by decide +kernel
theorem dX8_howMany_24 : decode cX8_howMany 24 = .ok (.goto (-20), 3) := by decide +kernel
theorem dX8_howMany_27 : decode cX8_howMany 27 = .ok (.iload_n 1, 1) := by decide +kernel
theorem dX8_howMany_28 : decode cX8_howMany 28 = .ok (.ireturn, 1) := by decide +kernel
theorem dX8_make_0 : decode cX8_make 0 = .ok (.aload_n 0, 1) := by decide +kernel
theorem dX8_make_1 : decode cX8_make 1 = .ok (.getfield 16, 3) := by decide +kernel
theorem dX8_make_4 : decode cX8_make 4 = .ok (.iload_n 1, 1) := by decide +kernel
theorem dX8_make_5 : decode cX8_make 5 = .ok (.iload_n 2, 1) := by decide +kernel
theorem dX8_make_6 : decode cX8_make 6 = .ok (.iastore, 1) := by decide +kernel
theorem dX8_make_7 : decode cX8_make 7 = .ok (.aload_n 0, 1) := by decide +kernel
theorem dX8_make_8 : decode cX8_make 8 = .ok (.getfield 20, 3) := by decide +kernel
theorem dX8_make_11 : decode cX8_make 11 = .ok (.iload_n 1, 1) := by decide +kernel
theorem dX8_make_12 : decode cX8_make 12 = .ok (.iload_n 3, 1) := by decide +kernel
theorem dX8_make_13 : decode cX8_make 13 = .ok (.iastore, 1) := by decide +kernel
theorem dX8_make_14 : decode cX8_make 14 = .ok (.aload_n 0, 1) := by decide +kernel
theorem dX8_make_15 : decode cX8_make 15 = .ok (.getfield 11, 3) := by decide +kernel
theorem dX8_make_18 : decode cX8_make 18 = .ok (.iload_n 1, 1) := by decide +kernel
theorem dX8_make_19 : decode cX8_make 19 = .ok (.aaload, 1) := by decide +kernel
theorem dX8_make_20 : decode cX8_make 20 = .ok (.iconst 0, 1) := by decide +kernel
theorem dX8_make_21 : decode cX8_make 21 = .ok (.invokestatic 23, 3) := by decide +kernel
theorem dX8_make_24 : decode cX8_make 24 = .ok (.return_, 1) := by decide +kernel
theorem dX8_remove_0 : decode cX8_remove 0 = .ok (.aload_n 0, 1) := by decide +kernel
theorem dX8_remove_1 : decode cX8_remove 1 = .ok (.getfield 20, 3) := by decide +kernel
theorem dX8_remove_4 : decode cX8_remove 4 = .ok (.iload_n 1, 1) := by decide +kernel
theorem dX8_remove_5 : decode cX8_remove 5 = .ok (.iaload, 1) := by decide +kernel
theorem dX8_remove_6 : decode cX8_remove 6 = .ok (.istore_n 2, 1) := by decide +kernel
theorem dX8_remove_7 : decode cX8_remove 7 = .ok (.aload_n 0, 1) := by decide +kernel
theorem dX8_remove_8 : decode cX8_remove 8 = .ok (.getfield 20, 3) := by decide +kernel
theorem dX8_remove_11 : decode cX8_remove 11 = .ok (.iload_n 1, 1) := by decide +kernel
theorem dX8_remove_12 : decode cX8_remove 12 = .ok (.iconst (-1), 1) := by decide +kernel
theorem dX8_remove_13 : decode cX8_remove 13 = .ok (.iastore, 1) := by decide +kernel
theorem dX8_remove_14 : decode cX8_remove 14 = .ok (.iload_n 2, 1) := by decide +kernel
theorem dX8_remove_15 : decode cX8_remove 15 = .ok (.ireturn, 1) := by decide +kernel
theorem dX8_itemAt_0 : decode cX8_itemAt 0 = .ok (.aload_n 0, 1) := by decide +kernel
theorem dX8_itemAt_1 : decode cX8_itemAt 1 = .ok (.getfield 11, 3) := by decide +kernel
theorem dX8_itemAt_4 : decode cX8_itemAt 4 = .ok (.iload_n 1, 1) := by decide +kernel
theorem dX8_itemAt_5 : decode cX8_itemAt 5 = .ok (.aaload, 1) := by decide +kernel
theorem dX8_itemAt_6 : decode cX8_itemAt 6 = .ok (.iload_n 2, 1) := by decide +kernel
theorem dX8_itemAt_7 : decode cX8_itemAt 7 = .ok (.iaload, 1) := by decide +kernel
theorem dX8_itemAt_8 : decode cX8_itemAt 8 = .ok (.ireturn, 1) := by decide +kernel
theorem dX8_put_0 : decode cX8_put 0 = .ok (.iload_n 3, 1) := by decide +kernel
theorem dX8_put_1 : decode cX8_put 1 = .ok (.istore 4, 2) := by decide +kernel
theorem dX8_put_3 : decode cX8_put 3 = .ok (.aload_n 0, 1) := by decide +kernel
theorem dX8_put_4 : decode cX8_put 4 = .ok (.getfield 16, 3) := by decide +kernel
theorem dX8_put_7 : decode cX8_put 7 = .ok (.iload_n 1, 1) := by decide +kernel
theorem dX8_put_8 : decode cX8_put 8 = .ok (.iaload, 1) := by decide +kernel
theorem dX8_put_9 : decode cX8_put 9 = .ok (.ifCond .ne 10, 3) := by decide +kernel
theorem dX8_put_12 : decode cX8_put 12 = .ok (.iload_n 3, 1) := by decide +kernel
theorem dX8_put_13 : decode cX8_put 13 = .ok (.i2b, 1) := by decide +kernel
theorem dX8_put_14 : decode cX8_put 14 = .ok (.istore 4, 2) := by decide +kernel
theorem dX8_put_16 : decode cX8_put 16 = .ok (.goto 17, 3) := by decide +kernel
theorem dX8_put_19 : decode cX8_put 19 = .ok (.aload_n 0, 1) := by decide +kernel
theorem dX8_put_20 : decode cX8_put 20 = .ok (.getfield 16, 3) := by decide +kernel
theorem dX8_put_23 : decode cX8_put 23 = .ok (.iload_n 1, 1) := by decide +kernel
theorem dX8_put_24 : decode cX8_put 24 = .ok (.iaload, 1) := by decide +kernel
theorem dX8_put_25 : decode cX8_put 25 = .ok (.iconst 1, 1) := by decide +kernel
theorem dX8_put_26 : decode cX8_put 26 = .ok (.if_icmp .ne 7, 3) := by decide +kernel
theorem dX8_put_29 : decode cX8_put 29 = .ok (.iload_n 3, 1) := by decide +kernel
theorem dX8_put_30 : decode cX8_put 30 = .ok (.i2s, 1) := by decide +kernel
theorem dX8_put_31 : decode cX8_put 31 = .ok (.istore 4, 2) := by decide +kernel
theorem dX8_put_33 : decode cX8_put 33 = .ok (.aload_n 0, 1) := by decide +kernel
theorem dX8_put_34 : decode cX8_put 34 = .ok (.getfield 11, 3) := by decide +kernel
theorem dX8_put_37 : decode cX8_put 37 = .ok (.iload_n 1, 1) := by decide +kernel
theorem dX8_put_38 : decode cX8_put 38 = .ok (.aaload, 1) := by decide +kernel
theorem dX8_put_39 : decode cX8_put 39 = .ok (.iload_n 2, 1) := by decide +kernel
theorem dX8_put_40 : decode cX8_put 40 = .ok (.iload 4, 2) := by decide +kernel
theorem dX8_put_42 : decode cX8_put 42 = .ok (.iastore, 1) := by decide +kernel
theorem dX8_put_43 : decode cX8_put 43 = .ok (.iload 4, 2) := by decide +kernel
theorem dX8_put_45 : decode cX8_put 45 = .ok (.ireturn, 1) := by decide +kernel
theorem dX8_move_0 : decode cX8_move 0 = .ok (.aload_n 0, 1) := by decide +kernel
theorem dX8_move_1 : decode cX8_move 1 = .ok (.getfield 11, 3) := by decide +kernel
theorem dX8_move_4 : decode cX8_move 4 = .ok (.iload_n 1, 1) := by decide +kernel
theorem dX8_move_5 : decode cX8_move 5 = .ok (.aaload, 1) := by decide +kernel
theorem dX8_move_6 : decode cX8_move 6 = .ok (.iload_n 2, 1) := by decide +kernel
theorem dX8_move_7 : decode cX8_move 7 = .ok (.aload_n 0, 1) := by decide +kernel
theorem dX8_move_8 : decode cX8_move 8 = .ok (.getfield 11, 3) := by decide +kernel
theorem dX8_move_11 : decode cX8_move 11 = .ok (.iload_n 3, 1) := by decide +kernel
theorem dX8_move_12 : decode cX8_move 12 = .ok (.aaload, 1) := by decide +kernel
theorem dX8_move_13 : decode cX8_move 13 = .ok (.iload 4, 2) := by decide +kernel
theorem dX8_move_15 : decode cX8_move 15 = .ok (.iload 5, 2) := by decide +kernel
theorem dX8_move_17 : decode cX8_move 17 = .ok (.invokestatic 33, 3) := by decide +kernel
theorem dX8_move_20 : decode cX8_move 20 = .ok (.return_, 1) := by decide +kernel
theorem dX8_findingOf_0 : decode cX8_findingOf 0 = .ok (.aload_n 0, 1) := by decide +kernel
theorem dX8_findingOf_1 : decode cX8_findingOf 1 = .ok (.iload_n 1, 1) := by decide +kernel
theorem dX8_findingOf_2 : decode cX8_findingOf 2 = .ok (.invokevirtual 29, 3) := by decide +kernel
theorem dX8_findingOf_5 : decode cX8_findingOf 5 = .ok (.ifCond .eq 5, 3) := by decide +kernel
theorem dX8_findingOf_8 : decode cX8_findingOf 8 = .ok (.iconst 1, 1) := by decide +kernel
theorem dX8_findingOf_9 : decode cX8_findingOf 9 = .ok (.ireturn, 1) := by decide +kernel
theorem dX8_findingOf_10 : decode cX8_findingOf 10 = .ok (.aload_n 0, 1) := by decide +kernel
theorem dX8_findingOf_11 : decode cX8_findingOf 11 = .ok (.iload_n 1, 1) := by decide +kernel
theorem dX8_findingOf_12 : decode cX8_findingOf 12 = .ok (.iload_n 2, 1) := by decide +kernel
theorem dX8_findingOf_13 : decode cX8_findingOf 13 = .ok (.iload_n 3, 1) := by decide +kernel
theorem dX8_findingOf_14 : decode cX8_findingOf 14 = .ok (.invokevirtual 39, 3) := by decide +kernel
theorem dX8_findingOf_17 : decode cX8_findingOf 17 = .ok (.ifCond .eq 7, 3) := by decide +kernel
theorem dX8_findingOf_20 : decode cX8_findingOf 20 = .ok (.iconst 0, 1) := by decide +kernel
theorem dX8_findingOf_21 : decode cX8_findingOf 21 = .ok (.goto 4, 3) := by decide +kernel
theorem dX8_findingOf_24 : decode cX8_findingOf 24 = .ok (.iconst 2, 1) := by decide +kernel
theorem dX8_findingOf_25 : decode cX8_findingOf 25 = .ok (.ireturn, 1) := by decide +kernel
theorem dX8_findingOfMove_0 : decode cX8_findingOfMove 0 = .ok (.aload_n 0, 1) := by decide +kernel
theorem dX8_findingOfMove_1 : decode cX8_findingOfMove 1 = .ok (.iload_n 1, 1) := by decide +kernel
theorem dX8_findingOfMove_2 : decode cX8_findingOfMove 2 = .ok (.invokevirtual 29, 3) := by decide +kernel
theorem dX8_findingOfMove_5 : decode cX8_findingOfMove 5 = .ok (.ifCond .ne 11, 3) := by decide +kernel
theorem dX8_findingOfMove_8 : decode cX8_findingOfMove 8 = .ok (.aload_n 0, 1) := by decide +kernel
theorem dX8_findingOfMove_9 : decode cX8_findingOfMove 9 = .ok (.iload_n 3, 1) := by decide +kernel
theorem dX8_findingOfMove_10 : decode cX8_findingOfMove 10 = .ok (.invokevirtual 29, 3) := by decide +kernel
theorem dX8_findingOfMove_13 : decode cX8_findingOfMove 13 = .ok (.ifCond .eq 5, 3) := by decide +kernel
theorem dX8_findingOfMove_16 : decode cX8_findingOfMove 16 = .ok (.iconst 1, 1) := by decide +kernel
theorem dX8_findingOfMove_17 : decode cX8_findingOfMove 17 = .ok (.ireturn, 1) := by decide +kernel
theorem dX8_findingOfMove_18 : decode cX8_findingOfMove 18 = .ok (.aload_n 0, 1) := by decide +kernel
theorem dX8_findingOfMove_19 : decode cX8_findingOfMove 19 = .ok (.getfield 16, 3) := by decide +kernel
theorem dX8_findingOfMove_22 : decode cX8_findingOfMove 22 = .ok (.iload_n 1, 1) := by decide +kernel
theorem dX8_findingOfMove_23 : decode cX8_findingOfMove 23 = .ok (.iaload, 1) := by decide +kernel
theorem dX8_findingOfMove_24 : decode cX8_findingOfMove 24 = .ok (.aload_n 0, 1) := by decide +kernel
theorem dX8_findingOfMove_25 : decode cX8_findingOfMove 25 = .ok (.getfield 16, 3) := by decide +kernel
theorem dX8_findingOfMove_28 : decode cX8_findingOfMove 28 = .ok (.iload_n 3, 1) := by decide +kernel
theorem dX8_findingOfMove_29 : decode cX8_findingOfMove 29 = .ok (.iaload, 1) := by decide +kernel
theorem dX8_findingOfMove_30 : decode cX8_findingOfMove 30 = .ok (.if_icmp .eq 5, 3) := by decide +kernel
theorem dX8_findingOfMove_33 : decode cX8_findingOfMove 33 = .ok (.iconst 5, 1) := by decide +kernel
theorem dX8_findingOfMove_34 : decode cX8_findingOfMove 34 = .ok (.ireturn, 1) := by decide +kernel
theorem dX8_findingOfMove_35 : decode cX8_findingOfMove 35 = .ok (.aload_n 0, 1) := by decide +kernel
theorem dX8_findingOfMove_36 : decode cX8_findingOfMove 36 = .ok (.iload_n 1, 1) := by decide +kernel
theorem dX8_findingOfMove_37 : decode cX8_findingOfMove 37 = .ok (.iload_n 2, 1) := by decide +kernel
theorem dX8_findingOfMove_38 : decode cX8_findingOfMove 38 = .ok (.iload 5, 2) := by decide +kernel
theorem dX8_findingOfMove_40 : decode cX8_findingOfMove 40 = .ok (.invokevirtual 39, 3) := by decide +kernel
theorem dX8_findingOfMove_43 : decode cX8_findingOfMove 43 = .ok (.ifCond .eq 19, 3) := by decide +kernel
theorem dX8_findingOfMove_46 : decode cX8_findingOfMove 46 = .ok (.aload_n 0, 1) := by decide +kernel
theorem dX8_findingOfMove_47 : decode cX8_findingOfMove 47 = .ok (.iload_n 3, 1) := by decide +kernel
theorem dX8_findingOfMove_48 : decode cX8_findingOfMove 48 = .ok (.iload 4, 2) := by decide +kernel
theorem dX8_findingOfMove_50 : decode cX8_findingOfMove 50 = .ok (.iload 5, 2) := by decide +kernel
theorem dX8_findingOfMove_52 : decode cX8_findingOfMove 52 = .ok (.invokevirtual 39, 3) := by decide +kernel
theorem dX8_findingOfMove_55 : decode cX8_findingOfMove 55 = .ok (.ifCond .eq 7, 3) := by decide +kernel
theorem dX8_findingOfMove_58 : decode cX8_findingOfMove 58 = .ok (.iconst 0, 1) := by decide +kernel
theorem dX8_findingOfMove_59 : decode cX8_findingOfMove 59 = .ok (.goto 4, 3) := by decide +kernel
theorem dX8_findingOfMove_62 : decode cX8_findingOfMove 62 = .ok (.iconst 2, 1) := by decide +kernel
theorem dX8_findingOfMove_63 : decode cX8_findingOfMove 63 = .ok (.ireturn, 1) := by decide +kernel
theorem dX8_hasSpan_0 : decode cX8_hasSpan 0 = .ok (.iload_n 3, 1) := by decide +kernel
theorem dX8_hasSpan_1 : decode cX8_hasSpan 1 = .ok (.ifCond .lt 23, 3) := by decide +kernel
theorem dX8_hasSpan_4 : decode cX8_hasSpan 4 = .ok (.iload_n 2, 1) := by decide +kernel
theorem dX8_hasSpan_5 : decode cX8_hasSpan 5 = .ok (.ifCond .lt 19, 3) := by decide +kernel
theorem dX8_hasSpan_8 : decode cX8_hasSpan 8 = .ok (.iload_n 2, 1) := by decide +kernel
theorem dX8_hasSpan_9 : decode cX8_hasSpan 9 = .ok (.aload_n 0, 1) := by decide +kernel
theorem dX8_hasSpan_10 : decode cX8_hasSpan 10 = .ok (.getfield 20, 3) := by decide +kernel
theorem dX8_hasSpan_13 : decode cX8_hasSpan 13 = .ok (.iload_n 1, 1) := by decide +kernel
theorem dX8_hasSpan_14 : decode cX8_hasSpan 14 = .ok (.iaload, 1) := by decide +kernel
theorem dX8_hasSpan_15 : decode cX8_hasSpan 15 = .ok (.iload_n 3, 1) := by decide +kernel
theorem dX8_hasSpan_16 : decode cX8_hasSpan 16 = .ok (.isub, 1) := by decide +kernel
theorem dX8_hasSpan_17 : decode cX8_hasSpan 17 = .ok (.if_icmp .gt 7, 3) := by decide +kernel
theorem dX8_hasSpan_20 : decode cX8_hasSpan 20 = .ok (.iconst 1, 1) := by decide +kernel
theorem dX8_hasSpan_21 : decode cX8_hasSpan 21 = .ok (.goto 4, 3) := by decide +kernel
theorem dX8_hasSpan_24 : decode cX8_hasSpan 24 = .ok (.iconst 0, 1) := by decide +kernel
theorem dX8_hasSpan_25 : decode cX8_hasSpan 25 = .ok (.ireturn, 1) := by decide +kernel
theorem dX9_init_0 : decode cX9_init 0 = .ok (.aload_n 0, 1) := by decide +kernel
theorem dX9_init_1 : decode cX9_init 1 = .ok (.invokespecial 3, 3) := by decide +kernel
theorem dX9_init_4 : decode cX9_init 4 = .ok (.aload_n 0, 1) := by decide +kernel
theorem dX9_init_5 : decode cX9_init 5 = .ok (.bipush 100, 2) := by decide +kernel
theorem dX9_init_7 : decode cX9_init 7 = .ok (.newarray .int, 2) := by decide +kernel
theorem dX9_init_9 : decode cX9_init 9 = .ok (.putfield 9, 3) := by decide +kernel
theorem dX9_init_12 : decode cX9_init 12 = .ok (.return_, 1) := by decide +kernel
theorem dX9_put_0 : decode cX9_put 0 = .ok (.aload_n 0, 1) := by decide +kernel
theorem dX9_put_1 : decode cX9_put 1 = .ok (.getfield 15, 3) := by decide +kernel
theorem dX9_put_4 : decode cX9_put 4 = .ok (.bipush 100, 2) := by decide +kernel
theorem dX9_put_6 : decode cX9_put 6 = .ok (.if_icmp .ge 23, 3) := by decide +kernel
theorem dX9_put_9 : decode cX9_put 9 = .ok (.aload_n 0, 1) := by decide +kernel
theorem dX9_put_10 : decode cX9_put 10 = .ok (.getfield 9, 3) := by decide +kernel
theorem dX9_put_13 : decode cX9_put 13 = .ok (.aload_n 0, 1) := by decide +kernel
theorem dX9_put_14 : decode cX9_put 14 = .ok (.getfield 15, 3) := by decide +kernel
theorem dX9_put_17 : decode cX9_put 17 = .ok (.iload_n 1, 1) := by decide +kernel
theorem dX9_put_18 : decode cX9_put 18 = .ok (.iastore, 1) := by decide +kernel
theorem dX9_put_19 : decode cX9_put 19 = .ok (.aload_n 0, 1) := by decide +kernel
theorem dX9_put_20 : decode cX9_put 20 = .ok (.dup, 1) := by decide +kernel
theorem dX9_put_21 : decode cX9_put 21 = .ok (.getfield 15, 3) := by decide +kernel
theorem dX9_put_24 : decode cX9_put 24 = .ok (.iconst 1, 1) := by decide +kernel
theorem dX9_put_25 : decode cX9_put 25 = .ok (.iadd, 1) := by decide +kernel
theorem dX9_put_26 : decode cX9_put 26 = .ok (.putfield 15, 3) := by decide +kernel
theorem dX9_put_29 : decode cX9_put 29 = .ok (.return_, 1) := by decide +kernel
theorem dX9_readInto_0 : decode cX9_readInto 0 = .ok (.aload_n 0, 1) := by decide +kernel
theorem dX9_readInto_1 : decode cX9_readInto 1 = .ok (.iconst 0, 1) := by decide +kernel
theorem dX9_readInto_2 : decode cX9_readInto 2 = .ok (.putfield 19, 3) := by decide +kernel
theorem dX9_readInto_5 : decode cX9_readInto 5 = .ok (.aload_n 0, 1) := by decide +kernel
theorem dX9_readInto_6 : decode cX9_readInto 6 = .ok (.aload_n 1, 1) := by decide +kernel
theorem dX9_readInto_7 : decode cX9_readInto 7 = .ok (.invokevirtual 22, 3) := by decide +kernel
theorem dX9_readInto_10 : decode cX9_readInto 10 = .ok (.ifCond .eq 15, 3) := by decide +kernel
theorem dX9_readInto_13 : decode cX9_readInto 13 = .ok (.aload_n 0, 1) := by decide +kernel
theorem dX9_readInto_14 : decode cX9_readInto 14 = .ok (.aload_n 1, 1) := by decide +kernel
theorem dX9_readInto_15 : decode cX9_readInto 15 = .ok (.invokevirtual 26, 3) := by decide +kernel
theorem dX9_readInto_18 : decode cX9_readInto 18 = .ok (.ifCond .eq 7, 3) := by decide +kernel
theorem dX9_readInto_21 : decode cX9_readInto 21 = .ok (.iconst 1, 1) := by decide +kernel
theorem dX9_readInto_22 : decode cX9_readInto 22 = .ok (.goto 4, 3) := by decide +kernel
theorem dX9_readInto_25 : decode cX9_readInto 25 = .ok (.iconst 0, 1) := by decide +kernel
theorem dX9_readInto_26 : decode cX9_readInto 26 = .ok (.ireturn, 1) := by decide +kernel
theorem dX9_readLaw_0 : decode cX9_readLaw 0 = .ok (.aload_n 0, 1) := by decide +kernel
theorem dX9_readLaw_1 : decode cX9_readLaw 1 = .ok (.bipush 116, 2) := by decide +kernel
theorem dX9_readLaw_3 : decode cX9_readLaw 3 = .ok (.invokevirtual 29, 3) := by decide +kernel
theorem dX9_readLaw_6 : decode cX9_readLaw 6 = .ok (.ifCond .eq 22, 3) := by decide +kernel
theorem dX9_readLaw_9 : decode cX9_readLaw 9 = .ok (.aload_n 0, 1) := by decide +kernel
theorem dX9_readLaw_10 : decode cX9_readLaw 10 = .ok (.iconst 2, 1) := by decide +kernel
theorem dX9_readLaw_11 : decode cX9_readLaw 11 = .ok (.bipush 8, 2) := by decide +kernel
theorem dX9_readLaw_13 : decode cX9_readLaw 13 = .ok (.invokevirtual 33, 3) := by decide +kernel
theorem dX9_readLaw_16 : decode cX9_readLaw 16 = .ok (.ifCond .eq 12, 3) := by decide +kernel
theorem dX9_readLaw_19 : decode cX9_readLaw 19 = .ok (.aload_n 0, 1) := by decide +kernel
theorem dX9_readLaw_20 : decode cX9_readLaw 20 = .ok (.bipush 44, 2) := by decide +kernel
theorem dX9_readLaw_22 : decode cX9_readLaw 22 = .ok (.invokevirtual 29, 3) := by decide +kernel
theorem dX9_readLaw_25 : decode cX9_readLaw 25 = .ok (.ifCond .ne 5, 3) := by decide +kernel
theorem dX9_readLaw_28 : decode cX9_readLaw 28 = .ok (.iconst 0, 1) := by decide +kernel
theorem dX9_readLaw_29 : decode cX9_readLaw 29 = .ok (.ireturn, 1) := by decide +kernel
theorem dX9_readLaw_30 : decode cX9_readLaw 30 = .ok (.aload_n 0, 1) := by decide +kernel
theorem dX9_readLaw_31 : decode cX9_readLaw 31 = .ok (.getfield 37, 3) := by decide +kernel
theorem dX9_readLaw_34 : decode cX9_readLaw 34 = .ok (.istore_n 2, 1) := by decide +kernel
theorem dX9_readLaw_35 : decode cX9_readLaw 35 = .ok (.aload_n 0, 1) := by decide +kernel
theorem dX9_readLaw_36 : decode cX9_readLaw 36 = .ok (.iconst 0, 1) := by decide +kernel
theorem dX9_readLaw_37 : decode cX9_readLaw 37 = .ok (.bipush 40, 2) := by decide +kernel
theorem dX9_readLaw_39 : decode cX9_readLaw 39 = .ok (.invokevirtual 33, 3) := by decide +kernel
theorem dX9_readLaw_42 : decode cX9_readLaw 42 = .ok (.ifCond .eq 12, 3) := by decide +kernel
theorem dX9_readLaw_45 : decode cX9_readLaw 45 = .ok (.aload_n 0, 1) := by decide +kernel
theorem dX9_readLaw_46 : decode cX9_readLaw 46 = .ok (.bipush 59, 2) := by decide +kernel
theorem dX9_readLaw_48 : decode cX9_readLaw 48 = .ok (.invokevirtual 29, 3) := by decide +kernel
theorem dX9_readLaw_51 : decode cX9_readLaw 51 = .ok (.ifCond .ne 5, 3) := by decide +kernel
theorem dX9_readLaw_54 : decode cX9_readLaw 54 = .ok (.iconst 0, 1) := by decide +kernel
theorem dX9_readLaw_55 : decode cX9_readLaw 55 = .ok (.ireturn, 1) := by decide +kernel
theorem dX9_readLaw_56 : decode cX9_readLaw 56 = .ok (.aload_n 1, 1) := by decide +kernel
theorem dX9_readLaw_57 : decode cX9_readLaw 57 = .ok (.iload_n 2, 1) := by decide +kernel
theorem dX9_readLaw_58 : decode cX9_readLaw 58 = .ok (.aload_n 0, 1) := by decide +kernel
theorem dX9_readLaw_59 : decode cX9_readLaw 59 = .ok (.getfield 37, 3) := by decide +kernel
theorem dX9_readLaw_62 : decode cX9_readLaw 62 = .ok (.invokevirtual 40, 3) := by decide +kernel
theorem dX9_readLaw_65 : decode cX9_readLaw 65 = .ok (.iconst 1, 1) := by decide +kernel
theorem dX9_readLaw_66 : decode cX9_readLaw 66 = .ok (.ireturn, 1) := by decide +kernel
theorem dX9_readPeople_0 : decode cX9_readPeople 0 = .ok (.iconst 0, 1) := by decide +kernel
theorem dX9_readPeople_1 : decode cX9_readPeople 1 = .ok (.istore_n 2, 1) := by decide +kernel
theorem dX9_readPeople_2 : decode cX9_readPeople 2 = .ok (.iload_n 2, 1) := by decide +kernel
theorem dX9_readPeople_3 : decode cX9_readPeople 3 = .ok (.bipush 6, 2) := by decide +kernel
theorem dX9_readPeople_5 : decode cX9_readPeople 5 = .ok (.if_icmp .gt 81, 3) := by decide +kernel
theorem dX9_readPeople_8 : decode cX9_readPeople 8 = .ok (.aload_n 0, 1) := by decide +kernel
theorem dX9_readPeople_9 : decode cX9_readPeople 9 = .ok (.getfield 19, 3) := by decide +kernel
theorem dX9_readPeople_12 : decode cX9_readPeople 12 = .ok (.aload_n 0, 1) := by decide +kernel
theorem dX9_readPeople_13 : decode cX9_readPeople 13 = .ok (.getfield 15, 3) := by decide +kernel
theorem dX9_readPeople_16 : decode cX9_readPeople 16 = .ok (.if_icmp .ge 70, 3) := by decide +kernel
theorem dX9_readPeople_19 : decode cX9_readPeople 19 = .ok (.ldc 46, 2) := by decide +kernel
theorem dX9_readPeople_21 : decode cX9_readPeople 21 = .ok (.aload_n 0, 1) := by decide +kernel
theorem dX9_readPeople_22 : decode cX9_readPeople 22 = .ok (.getfield 9, 3) := by decide +kernel
theorem dX9_readPeople_25 : decode cX9_readPeople 25 = .ok (.aload_n 0, 1) := by decide +kernel
theorem dX9_readPeople_26 : decode cX9_readPeople 26 = .ok (.getfield 19, 3) := by decide +kernel
theorem dX9_readPeople_29 : decode cX9_readPeople 29 = .ok (.iaload, 1) := by decide +kernel
theorem dX9_readPeople_30 : decode cX9_readPeople 30 = .ok (.i2c, 1) := by decide +kernel
theorem dX9_readPeople_31 : decode cX9_readPeople 31 = .ok (.invokevirtual 48, 3) := by decide +kernel
theorem dX9_readPeople_34 : decode cX9_readPeople 34 = .ok (.iconst 1, 1) := by decide +kernel
theorem dX9_readPeople_35 : decode cX9_readPeople 35 = .ok (.iadd, 1) := by decide +kernel
theorem dX9_readPeople_36 : decode cX9_readPeople 36 = .ok (.istore_n 3, 1) := by decide +kernel
theorem dX9_readPeople_37 : decode cX9_readPeople 37 = .ok (.iload_n 3, 1) := by decide +kernel
theorem dX9_readPeople_38 : decode cX9_readPeople 38 = .ok (.ifCond .ne 9, 3) := by decide +kernel
theorem dX9_readPeople_41 : decode cX9_readPeople 41 = .ok (.aload_n 0, 1) := by decide +kernel
theorem dX9_readPeople_42 : decode cX9_readPeople 42 = .ok (.iconst 1, 1) := by decide +kernel
theorem dX9_readPeople_43 : decode cX9_readPeople 43 = .ok (.invokevirtual 54, 3) := by decide +kernel
theorem dX9_readPeople_46 : decode cX9_readPeople 46 = .ok (.ireturn, 1) := by decide +kernel
theorem dX9_readPeople_47 : decode cX9_readPeople 47 = .ok (.iload_n 2, 1) := by decide +kernel
theorem dX9_readPeople_48 : decode cX9_readPeople 48 = .ok (.bipush 6, 2) := by decide +kernel
theorem dX9_readPeople_50 : decode cX9_readPeople 50 = .ok (.if_icmp .ne 9, 3) := by decide +kernel
theorem dX9_readPeople_53 : decode cX9_readPeople 53 = .ok (.aload_n 0, 1) := by decide +kernel
theorem dX9_readPeople_54 : decode cX9_readPeople 54 = .ok (.iconst 3, 1) := by decide +kernel
theorem dX9_readPeople_55 : decode cX9_readPeople 55 = .ok (.invokevirtual 54, 3) := by decide +kernel
theorem dX9_readPeople_58 : decode cX9_readPeople 58 = .ok (.ireturn, 1) := by decide +kernel
theorem dX9_readPeople_59 : decode cX9_readPeople 59 = .ok (.aload_n 0, 1) := by decide +kernel
theorem dX9_readPeople_60 : decode cX9_readPeople 60 = .ok (.dup, 1) := by decide +kernel
theorem dX9_readPeople_61 : decode cX9_readPeople 61 = .ok (.getfield 19, 3) := by decide +kernel
theorem dX9_readPeople_64 : decode cX9_readPeople 64 = .ok (.iconst 1, 1) := by decide +kernel
theorem dX9_readPeople_65 : decode cX9_readPeople 65 = .ok (.iadd, 1) := by decide +kernel
theorem dX9_readPeople_66 : decode cX9_readPeople 66 = .ok (.putfield 19, 3) := by decide +kernel
theorem dX9_readPeople_69 : decode cX9_readPeople 69 = .ok (.aload_n 0, 1) := by decide +kernel
theorem dX9_readPeople_70 : decode cX9_readPeople 70 = .ok (.aload_n 1, 1) := by decide +kernel
theorem dX9_readPeople_71 : decode cX9_readPeople 71 = .ok (.iload_n 3, 1) := by decide +kernel
theorem dX9_readPeople_72 : decode cX9_readPeople 72 = .ok (.invokevirtual 58, 3) := by decide +kernel
theorem dX9_readPeople_75 : decode cX9_readPeople 75 = .ok (.ifCond .ne 5, 3) := by decide +kernel
theorem dX9_readPeople_78 : decode cX9_readPeople 78 = .ok (.iconst 0, 1) := by decide +kernel
theorem dX9_readPeople_79 : decode cX9_readPeople 79 = .ok (.ireturn, 1) := by decide +kernel
theorem dX9_readPeople_80 : decode cX9_readPeople 80 = .ok (.iinc 2 1, 3) := by decide +kernel
theorem dX9_readPeople_83 : decode cX9_readPeople 83 = .ok (.goto (-81), 3) := by decide +kernel
theorem dX9_readPeople_86 : decode cX9_readPeople 86 = .ok (.iconst 1, 1) := by decide +kernel
theorem dX9_readPeople_87 : decode cX9_readPeople 87 = .ok (.ireturn, 1) := by decide +kernel
theorem dX9_readPerson_0 : decode cX9_readPerson 0 = .ok (.aload_n 1, 1) := by decide +kernel
theorem dX9_readPerson_1 : decode cX9_readPerson 1 = .ok (.getfield 62, 3) := by decide +kernel
theorem dX9_readPerson_4 : decode cX9_readPerson 4 = .ok (.iconst 1, 1) := by decide +kernel
theorem dX9_readPerson_5 : decode cX9_readPerson 5 = .ok (.isub, 1) := by decide +kernel
theorem dX9_readPerson_6 : decode cX9_readPerson 6 = .ok (.istore_n 3, 1) := by decide +kernel
theorem dX9_readPerson_7 : decode cX9_readPerson 7 = .ok (.aload_n 0, 1) := by decide +kernel
theorem dX9_readPerson_8 : decode cX9_readPerson 8 = .ok (.iconst 0, 1) := by decide +kernel
theorem dX9_readPerson_9 : decode cX9_readPerson 9 = .ok (.iload_n 3, 1) := by decide +kernel
theorem dX9_readPerson_10 : decode cX9_readPerson 10 = .ok (.invokevirtual 33, 3) := by decide +kernel
theorem dX9_readPerson_13 : decode cX9_readPerson 13 = .ok (.ifCond .eq 12, 3) := by decide +kernel
theorem dX9_readPerson_16 : decode cX9_readPerson 16 = .ok (.aload_n 0, 1) := by decide +kernel
theorem dX9_readPerson_17 : decode cX9_readPerson 17 = .ok (.bipush 44, 2) := by decide +kernel
theorem dX9_readPerson_19 : decode cX9_readPerson 19 = .ok (.invokevirtual 29, 3) := by decide +kernel
theorem dX9_readPerson_22 : decode cX9_readPerson 22 = .ok (.ifCond .ne 5, 3) := by decide +kernel
theorem dX9_readPerson_25 : decode cX9_readPerson 25 = .ok (.iconst 0, 1) := by decide +kernel
theorem dX9_readPerson_26 : decode cX9_readPerson 26 = .ok (.ireturn, 1) := by decide +kernel
theorem dX9_readPerson_27 : decode cX9_readPerson 27 = .ok (.aload_n 0, 1) := by decide +kernel
theorem dX9_readPerson_28 : decode cX9_readPerson 28 = .ok (.getfield 37, 3) := by decide +kernel
theorem dX9_readPerson_31 : decode cX9_readPerson 31 = .ok (.istore 4, 2) := by decide +kernel
theorem dX9_readPerson_33 : decode cX9_readPerson 33 = .ok (.aload_n 0, 1) := by decide +kernel
theorem dX9_readPerson_34 : decode cX9_readPerson 34 = .ok (.iconst 0, 1) := by decide +kernel
theorem dX9_readPerson_35 : decode cX9_readPerson 35 = .ok (.bipush 20, 2) := by decide +kernel
theorem dX9_readPerson_37 : decode cX9_readPerson 37 = .ok (.invokevirtual 33, 3) := by decide +kernel
theorem dX9_readPerson_40 : decode cX9_readPerson 40 = .ok (.ifCond .eq 12, 3) := by decide +kernel
theorem dX9_readPerson_43 : decode cX9_readPerson 43 = .ok (.aload_n 0, 1) := by decide +kernel
theorem dX9_readPerson_44 : decode cX9_readPerson 44 = .ok (.bipush 44, 2) := by decide +kernel
theorem dX9_readPerson_46 : decode cX9_readPerson 46 = .ok (.invokevirtual 29, 3) := by decide +kernel
theorem dX9_readPerson_49 : decode cX9_readPerson 49 = .ok (.ifCond .ne 5, 3) := by decide +kernel
theorem dX9_readPerson_52 : decode cX9_readPerson 52 = .ok (.iconst 0, 1) := by decide +kernel
theorem dX9_readPerson_53 : decode cX9_readPerson 53 = .ok (.ireturn, 1) := by decide +kernel
theorem dX9_readPerson_54 : decode cX9_readPerson 54 = .ok (.aload_n 0, 1) := by decide +kernel
theorem dX9_readPerson_55 : decode cX9_readPerson 55 = .ok (.getfield 37, 3) := by decide +kernel
theorem dX9_readPerson_58 : decode cX9_readPerson 58 = .ok (.istore 5, 2) := by decide +kernel
theorem dX9_readPerson_60 : decode cX9_readPerson 60 = .ok (.aload_n 0, 1) := by decide +kernel
theorem dX9_readPerson_61 : decode cX9_readPerson 61 = .ok (.iconst 0, 1) := by decide +kernel
theorem dX9_readPerson_62 : decode cX9_readPerson 62 = .ok (.iload_n 3, 1) := by decide +kernel
theorem dX9_readPerson_63 : decode cX9_readPerson 63 = .ok (.invokevirtual 33, 3) := by decide +kernel
theorem dX9_readPerson_66 : decode cX9_readPerson 66 = .ok (.ifCond .eq 12, 3) := by decide +kernel
theorem dX9_readPerson_69 : decode cX9_readPerson 69 = .ok (.aload_n 0, 1) := by decide +kernel
theorem dX9_readPerson_70 : decode cX9_readPerson 70 = .ok (.bipush 59, 2) := by decide +kernel
theorem dX9_readPerson_72 : decode cX9_readPerson 72 = .ok (.invokevirtual 29, 3) := by decide +kernel
theorem dX9_readPerson_75 : decode cX9_readPerson 75 = .ok (.ifCond .ne 5, 3) := by decide +kernel
theorem dX9_readPerson_78 : decode cX9_readPerson 78 = .ok (.iconst 0, 1) := by decide +kernel
theorem dX9_readPerson_79 : decode cX9_readPerson 79 = .ok (.ireturn, 1) := by decide +kernel
theorem dX9_readPerson_80 : decode cX9_readPerson 80 = .ok (.aload_n 1, 1) := by decide +kernel
theorem dX9_readPerson_81 : decode cX9_readPerson 81 = .ok (.iload_n 2, 1) := by decide +kernel
theorem dX9_readPerson_82 : decode cX9_readPerson 82 = .ok (.iload 4, 2) := by decide +kernel
theorem dX9_readPerson_84 : decode cX9_readPerson 84 = .ok (.iload 5, 2) := by decide +kernel
theorem dX9_readPerson_86 : decode cX9_readPerson 86 = .ok (.aload_n 0, 1) := by decide +kernel
theorem dX9_readPerson_87 : decode cX9_readPerson 87 = .ok (.getfield 37, 3) := by decide +kernel
theorem dX9_readPerson_90 : decode cX9_readPerson 90 = .ok (.invokevirtual 65, 3) := by decide +kernel
theorem dX9_readPerson_93 : decode cX9_readPerson 93 = .ok (.iconst 1, 1) := by decide +kernel
theorem dX9_readPerson_94 : decode cX9_readPerson 94 = .ok (.ireturn, 1) := by decide +kernel
theorem dX9_takeSign_0 : decode cX9_takeSign 0 = .ok (.aload_n 0, 1) := by decide +kernel
theorem dX9_takeSign_1 : decode cX9_takeSign 1 = .ok (.getfield 19, 3) := by decide +kernel
theorem dX9_takeSign_4 : decode cX9_takeSign 4 = .ok (.aload_n 0, 1) := by decide +kernel
theorem dX9_takeSign_5 : decode cX9_takeSign 5 = .ok (.getfield 15, 3) := by decide +kernel
theorem dX9_takeSign_8 : decode cX9_takeSign 8 = .ok (.if_icmp .ge 16, 3) := by decide +kernel
theorem dX9_takeSign_11 : decode cX9_takeSign 11 = .ok (.aload_n 0, 1) := by decide +kernel
theorem dX9_takeSign_12 : decode cX9_takeSign 12 = .ok (.getfield 9, 3) := by decide +kernel
theorem dX9_takeSign_15 : decode cX9_takeSign 15 = .ok (.aload_n 0, 1) := by decide +kernel
theorem dX9_takeSign_16 : decode cX9_takeSign 16 = .ok (.getfield 19, 3) := by decide +kernel
theorem dX9_takeSign_19 : decode cX9_takeSign 19 = .ok (.iaload, 1) := by decide +kernel
theorem dX9_takeSign_20 : decode cX9_takeSign 20 = .ok (.iload_n 1, 1) := by decide +kernel
theorem dX9_takeSign_21 : decode cX9_takeSign 21 = .ok (.if_icmp .eq 9, 3) := by decide +kernel
theorem dX9_takeSign_24 : decode cX9_takeSign 24 = .ok (.aload_n 0, 1) := by decide +kernel
theorem dX9_takeSign_25 : decode cX9_takeSign 25 = .ok (.iconst 1, 1) := by decide +kernel
theorem dX9_takeSign_26 : decode cX9_takeSign 26 = .ok (.invokevirtual 54, 3) := by decide +kernel
theorem dX9_takeSign_29 : decode cX9_takeSign 29 = .ok (.ireturn, 1) := by decide +kernel
theorem dX9_takeSign_30 : decode cX9_takeSign 30 = .ok (.aload_n 0, 1) := by decide +kernel
theorem dX9_takeSign_31 : decode cX9_takeSign 31 = .ok (.dup, 1) := by decide +kernel
theorem dX9_takeSign_32 : decode cX9_takeSign 32 = .ok (.getfield 19, 3) := by decide +kernel
theorem dX9_takeSign_35 : decode cX9_takeSign 35 = .ok (.iconst 1, 1) := by decide +kernel
theorem dX9_takeSign_36 : decode cX9_takeSign 36 = .ok (.iadd, 1) := by decide +kernel
theorem dX9_takeSign_37 : decode cX9_takeSign 37 = .ok (.putfield 19, 3) := by decide +kernel
theorem dX9_takeSign_40 : decode cX9_takeSign 40 = .ok (.iconst 1, 1) := by decide +kernel
theorem dX9_takeSign_41 : decode cX9_takeSign 41 = .ok (.ireturn, 1) := by decide +kernel
theorem dX9_takeNumber_0 : decode cX9_takeNumber 0 = .ok (.aload_n 0, 1) := by decide +kernel
theorem dX9_takeNumber_1 : decode cX9_takeNumber 1 = .ok (.getfield 19, 3) := by decide +kernel
theorem dX9_takeNumber_4 : decode cX9_takeNumber 4 = .ok (.istore_n 3, 1) := by decide +kernel
theorem dX9_takeNumber_5 : decode cX9_takeNumber 5 = .ok (.iconst 0, 1) := by decide +kernel
theorem dX9_takeNumber_6 : decode cX9_takeNumber 6 = .ok (.istore 4, 2) := by decide +kernel
theorem dX9_takeNumber_8 : decode cX9_takeNumber 8 = .ok (.iload_n 3, 1) := by decide +kernel
theorem dX9_takeNumber_9 : decode cX9_takeNumber 9 = .ok (.aload_n 0, 1) := by decide +kernel
theorem dX9_takeNumber_10 : decode cX9_takeNumber 10 = .ok (.getfield 15, 3) := by decide +kernel
theorem dX9_takeNumber_13 : decode cX9_takeNumber 13 = .ok (.if_icmp .ge 52, 3) := by decide +kernel
theorem dX9_takeNumber_16 : decode cX9_takeNumber 16 = .ok (.aload_n 0, 1) := by decide +kernel
theorem dX9_takeNumber_17 : decode cX9_takeNumber 17 = .ok (.getfield 9, 3) := by decide +kernel
theorem dX9_takeNumber_20 : decode cX9_takeNumber 20 = .ok (.iload_n 3, 1) := by decide +kernel
theorem dX9_takeNumber_21 : decode cX9_takeNumber 21 = .ok (.iaload, 1) := by decide +kernel
theorem dX9_takeNumber_22 : decode cX9_takeNumber 22 = .ok (.bipush 48, 2) := by decide +kernel
theorem dX9_takeNumber_24 : decode cX9_takeNumber 24 = .ok (.bipush 57, 2) := by decide +kernel
theorem dX9_takeNumber_26 : decode cX9_takeNumber 26 = .ok (.invokestatic 69, 3) := by decide +kernel
theorem dX9_takeNumber_29 : decode cX9_takeNumber 29 = .ok (.ifCond .eq 36, 3) := by decide +kernel
theorem dX9_takeNumber_32 : decode cX9_takeNumber 32 = .ok (.iload_n 3, 1) := by decide +kernel
theorem dX9_takeNumber_33 : decode cX9_takeNumber 33 = .ok (.aload_n 0, 1) := by decide +kernel
theorem dX9_takeNumber_34 : decode cX9_takeNumber 34 = .ok (.getfield 19, 3) := by decide +kernel
theorem dX9_takeNumber_37 : decode cX9_takeNumber 37 = .ok (.isub, 1) := by decide +kernel
theorem dX9_takeNumber_38 : decode cX9_takeNumber 38 = .ok (.iconst 2, 1) := by decide +kernel
theorem dX9_takeNumber_39 : decode cX9_takeNumber 39 = .ok (.if_icmp .ge 20, 3) := by decide +kernel
theorem dX9_takeNumber_42 : decode cX9_takeNumber 42 = .ok (.iload 4, 2) := by decide +kernel
theorem dX9_takeNumber_44 : decode cX9_takeNumber 44 = .ok (.bipush 10, 2) := by decide +kernel
theorem dX9_takeNumber_46 : decode cX9_takeNumber 46 = .ok (.imul, 1) := by decide +kernel
theorem dX9_takeNumber_47 : decode cX9_takeNumber 47 = .ok (.aload_n 0, 1) := by decide +kernel
theorem dX9_takeNumber_48 : decode cX9_takeNumber 48 = .ok (.getfield 9, 3) := by decide +kernel
theorem dX9_takeNumber_51 : decode cX9_takeNumber 51 = .ok (.iload_n 3, 1) := by decide +kernel
theorem dX9_takeNumber_52 : decode cX9_takeNumber 52 = .ok (.iaload, 1) := by decide +kernel
theorem dX9_takeNumber_53 : decode cX9_takeNumber 53 = .ok (.iadd, 1) := by decide +kernel
theorem dX9_takeNumber_54 : decode cX9_takeNumber 54 = .ok (.bipush 48, 2) := by decide +kernel
theorem dX9_takeNumber_56 : decode cX9_takeNumber 56 = .ok (.isub, 1) := by decide +kernel
theorem dX9_takeNumber_57 : decode cX9_takeNumber 57 = .ok (.istore 4, 2) := by decide +kernel
theorem dX9_takeNumber_59 : decode cX9_takeNumber 59 = .ok (.iinc 3 1, 3) := by decide +kernel
theorem dX9_takeNumber_62 : decode cX9_takeNumber 62 = .ok (.goto (-54), 3) := by decide +kernel
theorem dX9_takeNumber_65 : decode cX9_takeNumber 65 = .ok (.iload_n 3, 1) := by decide +kernel
theorem dX9_takeNumber_66 : decode cX9_takeNumber 66 = .ok (.aload_n 0, 1) := by decide +kernel
theorem dX9_takeNumber_67 : decode cX9_takeNumber 67 = .ok (.getfield 19, 3) := by decide +kernel
theorem dX9_takeNumber_70 : decode cX9_takeNumber 70 = .ok (.isub, 1) := by decide +kernel
theorem dX9_takeNumber_71 : decode cX9_takeNumber 71 = .ok (.iconst 1, 1) := by decide +kernel
theorem dX9_takeNumber_72 : decode cX9_takeNumber 72 = .ok (.iconst 2, 1) := by decide +kernel
theorem dX9_takeNumber_73 : decode cX9_takeNumber 73 = .ok (.invokestatic 69, 3) := by decide +kernel
theorem dX9_takeNumber_76 : decode cX9_takeNumber 76 = .ok (.ifCond .ne 9, 3) := by decide +kernel
theorem dX9_takeNumber_79 : decode cX9_takeNumber 79 = .ok (.aload_n 0, 1) := by decide +kernel
theorem dX9_takeNumber_80 : decode cX9_takeNumber 80 = .ok (.iconst 1, 1) := by decide +kernel
theorem dX9_takeNumber_81 : decode cX9_takeNumber 81 = .ok (.invokevirtual 54, 3) := by decide +kernel
theorem dX9_takeNumber_84 : decode cX9_takeNumber 84 = .ok (.ireturn, 1) := by decide +kernel
theorem dX9_takeNumber_85 : decode cX9_takeNumber 85 = .ok (.iload 4, 2) := by decide +kernel
theorem dX9_takeNumber_87 : decode cX9_takeNumber 87 = .ok (.iload_n 1, 1) := by decide +kernel
theorem dX9_takeNumber_88 : decode cX9_takeNumber 88 = .ok (.iload_n 2, 1) := by decide +kernel
theorem dX9_takeNumber_89 : decode cX9_takeNumber 89 = .ok (.invokestatic 69, 3) := by decide +kernel
theorem dX9_takeNumber_92 : decode cX9_takeNumber 92 = .ok (.ifCond .ne 9, 3) := by decide +kernel
theorem dX9_takeNumber_95 : decode cX9_takeNumber 95 = .ok (.aload_n 0, 1) := by decide +kernel
theorem dX9_takeNumber_96 : decode cX9_takeNumber 96 = .ok (.iconst 2, 1) := by decide +kernel
theorem dX9_takeNumber_97 : decode cX9_takeNumber 97 = .ok (.invokevirtual 54, 3) := by decide +kernel
theorem dX9_takeNumber_100 : decode cX9_takeNumber 100 = .ok (.ireturn, 1) := by decide +kernel
theorem dX9_takeNumber_101 : decode cX9_takeNumber 101 = .ok (.aload_n 0, 1) := by decide +kernel
theorem dX9_takeNumber_102 : decode cX9_takeNumber 102 = .ok (.iload 4, 2) := by decide +kernel
theorem dX9_takeNumber_104 : decode cX9_takeNumber 104 = .ok (.putfield 37, 3) := by decide +kernel
theorem dX9_takeNumber_107 : decode cX9_takeNumber 107 = .ok (.aload_n 0, 1) := by decide +kernel
theorem dX9_takeNumber_108 : decode cX9_takeNumber 108 = .ok (.iload_n 3, 1) := by decide +kernel
theorem dX9_takeNumber_109 : decode cX9_takeNumber 109 = .ok (.putfield 19, 3) := by decide +kernel
theorem dX9_takeNumber_112 : decode cX9_takeNumber 112 = .ok (.iconst 1, 1) := by decide +kernel
theorem dX9_takeNumber_113 : decode cX9_takeNumber 113 = .ok (.ireturn, 1) := by decide +kernel
theorem dX9_fails_0 : decode cX9_fails 0 = .ok (.aload_n 0, 1) := by decide +kernel
theorem dX9_fails_1 : decode cX9_fails 1 = .ok (.iload_n 1, 1) := by decide +kernel
theorem dX9_fails_2 : decode cX9_fails 2 = .ok (.putfield 73, 3) := by decide +kernel
theorem dX9_fails_5 : decode cX9_fails 5 = .ok (.aload_n 0, 1) := by decide +kernel
theorem dX9_fails_6 : decode cX9_fails 6 = .ok (.aload_n 0, 1) := by decide +kernel
theorem dX9_fails_7 : decode cX9_fails 7 = .ok (.getfield 19, 3) := by decide +kernel
theorem dX9_fails_10 : decode cX9_fails 10 = .ok (.putfield 76, 3) := by decide +kernel
theorem dX9_fails_13 : decode cX9_fails 13 = .ok (.iconst 0, 1) := by decide +kernel
theorem dX9_fails_14 : decode cX9_fails 14 = .ok (.ireturn, 1) := by decide +kernel
theorem dX10_init_0 : decode cX10_init 0 = .ok (.aload_n 0, 1) := by decide +kernel
theorem dX10_init_1 : decode cX10_init 1 = .ok (.invokespecial 1, 3) := by decide +kernel
theorem dX10_init_4 : decode cX10_init 4 = .ok (.return_, 1) := by decide +kernel
theorem dX10_askSize_0 : decode cX10_askSize 0 = .ok (.aload_n 1, 1) := by decide +kernel
theorem dX10_askSize_1 : decode cX10_askSize 1 = .ok (.bipush 10, 2) := by decide +kernel
theorem dX10_askSize_3 : decode cX10_askSize 3 = .ok (.invokevirtual 7, 3) := by decide +kernel
theorem dX10_askSize_6 : decode cX10_askSize 6 = .ok (.aload_n 1, 1) := by decide +kernel
theorem dX10_askSize_7 : decode cX10_askSize 7 = .ok (.getfield 13, 3) := by decide +kernel
theorem dX10_askSize_10 : decode cX10_askSize 10 = .ok (.ireturn, 1) := by decide +kernel
theorem dX10_askMark_0 : decode cX10_askMark 0 = .ok (.aload_n 1, 1) := by decide +kernel
theorem dX10_askMark_1 : decode cX10_askMark 1 = .ok (.bipush 20, 2) := by decide +kernel
theorem dX10_askMark_3 : decode cX10_askMark 3 = .ok (.invokevirtual 7, 3) := by decide +kernel
theorem dX10_askMark_6 : decode cX10_askMark 6 = .ok (.aload_n 1, 1) := by decide +kernel
theorem dX10_askMark_7 : decode cX10_askMark 7 = .ok (.getfield 17, 3) := by decide +kernel
theorem dX10_askMark_10 : decode cX10_askMark 10 = .ok (.ireturn, 1) := by decide +kernel
theorem dJ11_isValidCodePoint_9a6ad_0 : decode cJ11_isValidCodePoint_9a6ad 0 = .ok (.iload_n 0, 1) := by decide +kernel
theorem dJ11_isValidCodePoint_9a6ad_1 : decode cJ11_isValidCodePoint_9a6ad 1 = .ok (.bipush 16, 2) := by decide +kernel
theorem dJ11_isValidCodePoint_9a6ad_3 : decode cJ11_isValidCodePoint_9a6ad 3 = .ok (.iushr, 1) := by decide +kernel
theorem dJ11_isValidCodePoint_9a6ad_4 : decode cJ11_isValidCodePoint_9a6ad 4 = .ok (.istore_n 1, 1) := by decide +kernel
theorem dJ11_isValidCodePoint_9a6ad_5 : decode cJ11_isValidCodePoint_9a6ad 5 = .ok (.iload_n 1, 1) := by decide +kernel
theorem dJ11_isValidCodePoint_9a6ad_6 : decode cJ11_isValidCodePoint_9a6ad 6 = .ok (.bipush 17, 2) := by decide +kernel
theorem dJ11_isValidCodePoint_9a6ad_8 : decode cJ11_isValidCodePoint_9a6ad 8 = .ok (.if_icmp .ge 7, 3) := by decide +kernel
theorem dJ11_isValidCodePoint_9a6ad_11 : decode cJ11_isValidCodePoint_9a6ad 11 = .ok (.iconst 1, 1) := by decide +kernel
theorem dJ11_isValidCodePoint_9a6ad_12 : decode cJ11_isValidCodePoint_9a6ad 12 = .ok (.goto 4, 3) := by decide +kernel
theorem dJ11_isValidCodePoint_9a6ad_15 : decode cJ11_isValidCodePoint_9a6ad 15 = .ok (.iconst 0, 1) := by decide +kernel
theorem dJ11_isValidCodePoint_9a6ad_16 : decode cJ11_isValidCodePoint_9a6ad 16 = .ok (.ireturn, 1) := by decide +kernel
theorem dJ11_highSurrogate_5068e_0 : decode cJ11_highSurrogate_5068e 0 = .ok (.iload_n 0, 1) := by decide +kernel
theorem dJ11_highSurrogate_5068e_1 : decode cJ11_highSurrogate_5068e 1 = .ok (.bipush 10, 2) := by decide +kernel
theorem dJ11_highSurrogate_5068e_3 : decode cJ11_highSurrogate_5068e 3 = .ok (.iushr, 1) := by decide +kernel
theorem dJ11_highSurrogate_5068e_4 : decode cJ11_highSurrogate_5068e 4 = .ok (.ldc 110, 2) := by decide +kernel
theorem dJ11_highSurrogate_5068e_6 : decode cJ11_highSurrogate_5068e 6 = .ok (.iadd, 1) := by decide +kernel
theorem dJ11_highSurrogate_5068e_7 : decode cJ11_highSurrogate_5068e 7 = .ok (.i2c, 1) := by decide +kernel
theorem dJ11_highSurrogate_5068e_8 : decode cJ11_highSurrogate_5068e 8 = .ok (.ireturn, 1) := by decide +kernel
theorem dJ11_lowSurrogate_5068e_0 : decode cJ11_lowSurrogate_5068e 0 = .ok (.iload_n 0, 1) := by decide +kernel
theorem dJ11_lowSurrogate_5068e_1 : decode cJ11_lowSurrogate_5068e 1 = .ok (.sipush 1023, 3) := by decide +kernel
theorem dJ11_lowSurrogate_5068e_4 : decode cJ11_lowSurrogate_5068e 4 = .ok (.iand, 1) := by decide +kernel
theorem dJ11_lowSurrogate_5068e_5 : decode cJ11_lowSurrogate_5068e 5 = .ok (.ldc 76, 2) := by decide +kernel
theorem dJ11_lowSurrogate_5068e_7 : decode cJ11_lowSurrogate_5068e 7 = .ok (.iadd, 1) := by decide +kernel
theorem dJ11_lowSurrogate_5068e_8 : decode cJ11_lowSurrogate_5068e 8 = .ok (.i2c, 1) := by decide +kernel
theorem dJ11_lowSurrogate_5068e_9 : decode cJ11_lowSurrogate_5068e 9 = .ok (.ireturn, 1) := by decide +kernel
theorem dJ6_bitCount_0f7a4_0 : decode cJ6_bitCount_0f7a4 0 = .ok (.iload_n 0, 1) := by decide +kernel
theorem dJ6_bitCount_0f7a4_1 : decode cJ6_bitCount_0f7a4 1 = .ok (.iload_n 0, 1) := by decide +kernel
theorem dJ6_bitCount_0f7a4_2 : decode cJ6_bitCount_0f7a4 2 = .ok (.iconst 1, 1) := by decide +kernel
theorem dJ6_bitCount_0f7a4_3 : decode cJ6_bitCount_0f7a4 3 = .ok (.iushr, 1) := by decide +kernel
theorem dJ6_bitCount_0f7a4_4 : decode cJ6_bitCount_0f7a4 4 = .ok (.ldc_w 265, 3) := by decide +kernel
theorem dJ6_bitCount_0f7a4_7 : decode cJ6_bitCount_0f7a4 7 = .ok (.iand, 1) := by decide +kernel
theorem dJ6_bitCount_0f7a4_8 : decode cJ6_bitCount_0f7a4 8 = .ok (.isub, 1) := by decide +kernel
theorem dJ6_bitCount_0f7a4_9 : decode cJ6_bitCount_0f7a4 9 = .ok (.istore_n 0, 1) := by decide +kernel
theorem dJ6_bitCount_0f7a4_10 : decode cJ6_bitCount_0f7a4 10 = .ok (.iload_n 0, 1) := by decide +kernel
theorem dJ6_bitCount_0f7a4_11 : decode cJ6_bitCount_0f7a4 11 = .ok (.ldc_w 266, 3) := by decide +kernel
theorem dJ6_bitCount_0f7a4_14 : decode cJ6_bitCount_0f7a4 14 = .ok (.iand, 1) := by decide +kernel
theorem dJ6_bitCount_0f7a4_15 : decode cJ6_bitCount_0f7a4 15 = .ok (.iload_n 0, 1) := by decide +kernel
theorem dJ6_bitCount_0f7a4_16 : decode cJ6_bitCount_0f7a4 16 = .ok (.iconst 2, 1) := by decide +kernel
theorem dJ6_bitCount_0f7a4_17 : decode cJ6_bitCount_0f7a4 17 = .ok (.iushr, 1) := by decide +kernel
theorem dJ6_bitCount_0f7a4_18 : decode cJ6_bitCount_0f7a4 18 = .ok (.ldc_w 266, 3) := by decide +kernel
theorem dJ6_bitCount_0f7a4_21 : decode cJ6_bitCount_0f7a4 21 = .ok (.iand, 1) := by decide +kernel
theorem dJ6_bitCount_0f7a4_22 : decode cJ6_bitCount_0f7a4 22 = .ok (.iadd, 1) := by decide +kernel
theorem dJ6_bitCount_0f7a4_23 : decode cJ6_bitCount_0f7a4 23 = .ok (.istore_n 0, 1) := by decide +kernel
theorem dJ6_bitCount_0f7a4_24 : decode cJ6_bitCount_0f7a4 24 = .ok (.iload_n 0, 1) := by decide +kernel
theorem dJ6_bitCount_0f7a4_25 : decode cJ6_bitCount_0f7a4 25 = .ok (.iload_n 0, 1) := by decide +kernel
theorem dJ6_bitCount_0f7a4_26 : decode cJ6_bitCount_0f7a4 26 = .ok (.iconst 4, 1) := by decide +kernel
theorem dJ6_bitCount_0f7a4_27 : decode cJ6_bitCount_0f7a4 27 = .ok (.iushr, 1) := by decide +kernel
theorem dJ6_bitCount_0f7a4_28 : decode cJ6_bitCount_0f7a4 28 = .ok (.iadd, 1) := by decide +kernel
theorem dJ6_bitCount_0f7a4_29 : decode cJ6_bitCount_0f7a4 29 = .ok (.ldc_w 267, 3) := by decide +kernel
theorem dJ6_bitCount_0f7a4_32 : decode cJ6_bitCount_0f7a4 32 = .ok (.iand, 1) := by decide +kernel
theorem dJ6_bitCount_0f7a4_33 : decode cJ6_bitCount_0f7a4 33 = .ok (.istore_n 0, 1) := by decide +kernel
theorem dJ6_bitCount_0f7a4_34 : decode cJ6_bitCount_0f7a4 34 = .ok (.iload_n 0, 1) := by decide +kernel
theorem dJ6_bitCount_0f7a4_35 : decode cJ6_bitCount_0f7a4 35 = .ok (.iload_n 0, 1) := by decide +kernel
theorem dJ6_bitCount_0f7a4_36 : decode cJ6_bitCount_0f7a4 36 = .ok (.bipush 8, 2) := by decide +kernel
theorem dJ6_bitCount_0f7a4_38 : decode cJ6_bitCount_0f7a4 38 = .ok (.iushr, 1) := by decide +kernel
theorem dJ6_bitCount_0f7a4_39 : decode cJ6_bitCount_0f7a4 39 = .ok (.iadd, 1) := by decide +kernel
theorem dJ6_bitCount_0f7a4_40 : decode cJ6_bitCount_0f7a4 40 = .ok (.istore_n 0, 1) := by decide +kernel
theorem dJ6_bitCount_0f7a4_41 : decode cJ6_bitCount_0f7a4 41 = .ok (.iload_n 0, 1) := by decide +kernel
theorem dJ6_bitCount_0f7a4_42 : decode cJ6_bitCount_0f7a4 42 = .ok (.iload_n 0, 1) := by decide +kernel
theorem dJ6_bitCount_0f7a4_43 : decode cJ6_bitCount_0f7a4 43 = .ok (.bipush 16, 2) := by decide +kernel
theorem dJ6_bitCount_0f7a4_45 : decode cJ6_bitCount_0f7a4 45 = .ok (.iushr, 1) := by decide +kernel
theorem dJ6_bitCount_0f7a4_46 : decode cJ6_bitCount_0f7a4 46 = .ok (.iadd, 1) := by decide +kernel
theorem dJ6_bitCount_0f7a4_47 : decode cJ6_bitCount_0f7a4 47 = .ok (.istore_n 0, 1) := by decide +kernel
theorem dJ6_bitCount_0f7a4_48 : decode cJ6_bitCount_0f7a4 48 = .ok (.iload_n 0, 1) := by decide +kernel
theorem dJ6_bitCount_0f7a4_49 : decode cJ6_bitCount_0f7a4 49 = .ok (.bipush 63, 2) := by decide +kernel
theorem dJ6_bitCount_0f7a4_51 : decode cJ6_bitCount_0f7a4 51 = .ok (.iand, 1) := by decide +kernel
theorem dJ6_bitCount_0f7a4_52 : decode cJ6_bitCount_0f7a4 52 = .ok (.ireturn, 1) := by decide +kernel
theorem dJ9_max_7cf53_0 : decode cJ9_max_7cf53 0 = .ok (.iload_n 0, 1) := by decide +kernel
theorem dJ9_max_7cf53_1 : decode cJ9_max_7cf53 1 = .ok (.iload_n 1, 1) := by decide +kernel
theorem dJ9_max_7cf53_2 : decode cJ9_max_7cf53 2 = .ok (.if_icmp .lt 7, 3) := by decide +kernel
theorem dJ9_max_7cf53_5 : decode cJ9_max_7cf53 5 = .ok (.iload_n 0, 1) := by decide +kernel
theorem dJ9_max_7cf53_6 : decode cJ9_max_7cf53 6 = .ok (.goto 4, 3) := by decide +kernel
theorem dJ9_max_7cf53_9 : decode cJ9_max_7cf53 9 = .ok (.iload_n 1, 1) := by decide +kernel
theorem dJ9_max_7cf53_10 : decode cJ9_max_7cf53 10 = .ok (.ireturn, 1) := by decide +kernel
theorem dJ9_min_7cf53_0 : decode cJ9_min_7cf53 0 = .ok (.iload_n 0, 1) := by decide +kernel
theorem dJ9_min_7cf53_1 : decode cJ9_min_7cf53 1 = .ok (.iload_n 1, 1) := by decide +kernel
theorem dJ9_min_7cf53_2 : decode cJ9_min_7cf53 2 = .ok (.if_icmp .gt 7, 3) := by decide +kernel
theorem dJ9_min_7cf53_5 : decode cJ9_min_7cf53 5 = .ok (.iload_n 0, 1) := by decide +kernel
theorem dJ9_min_7cf53_6 : decode cJ9_min_7cf53 6 = .ok (.goto 4, 3) := by decide +kernel
theorem dJ9_min_7cf53_9 : decode cJ9_min_7cf53 9 = .ok (.iload_n 1, 1) := by decide +kernel
theorem dJ9_min_7cf53_10 : decode cJ9_min_7cf53 10 = .ok (.ireturn, 1) := by decide +kernel
theorem dJ0_length_8abf5_0 : decode cJ0_length_8abf5 0 = .ok (.aload_n 0, 1) := by decide +kernel
theorem dJ0_length_8abf5_1 : decode cJ0_length_8abf5 1 = .ok (.getfield 9, 3) := by decide +kernel
theorem dJ0_length_8abf5_4 : decode cJ0_length_8abf5 4 = .ok (.arraylength, 1) := by decide +kernel
theorem dJ0_length_8abf5_5 : decode cJ0_length_8abf5 5 = .ok (.aload_n 0, 1) := by decide +kernel
theorem dJ0_length_8abf5_6 : decode cJ0_length_8abf5 6 = .ok (.invokevirtual 335, 3) := by decide +kernel
theorem dJ0_length_8abf5_9 : decode cJ0_length_8abf5 9 = .ok (.ishr, 1) := by decide +kernel
theorem dJ0_length_8abf5_10 : decode cJ0_length_8abf5 10 = .ok (.ireturn, 1) := by decide +kernel
theorem dJ0_indexOf_0f7a4_0 : decode cJ0_indexOf_0f7a4 0 = .ok (.aload_n 0, 1) := by decide +kernel
theorem dJ0_indexOf_0f7a4_1 : decode cJ0_indexOf_0f7a4 1 = .ok (.iload_n 1, 1) := by decide +kernel
theorem dJ0_indexOf_0f7a4_2 : decode cJ0_indexOf_0f7a4 2 = .ok (.iconst 0, 1) := by decide +kernel
theorem dJ0_indexOf_0f7a4_3 : decode cJ0_indexOf_0f7a4 3 = .ok (.invokevirtual 633, 3) := by decide +kernel
theorem dJ0_indexOf_0f7a4_6 : decode cJ0_indexOf_0f7a4 6 = .ok (.ireturn, 1) := by decide +kernel
theorem dJ0_indexOf_7cf53_0 : decode cJ0_indexOf_7cf53 0 = .ok (.aload_n 0, 1) := by decide +kernel
theorem dJ0_indexOf_7cf53_1 : decode cJ0_indexOf_7cf53 1 = .ok (.invokevirtual 492, 3) := by decide +kernel
theorem dJ0_indexOf_7cf53_4 : decode cJ0_indexOf_7cf53 4 = .ok (.ifCond .eq 19, 3) := by decide +kernel
theorem dJ0_indexOf_7cf53_7 : decode cJ0_indexOf_7cf53 7 = .ok (.aload_n 0, 1) := by decide +kernel
theorem dJ0_indexOf_7cf53_8 : decode cJ0_indexOf_7cf53 8 = .ok (.getfield 9, 3) := by decide +kernel
theorem dJ0_indexOf_7cf53_11 : decode cJ0_indexOf_7cf53 11 = .ok (.iload_n 1, 1) := by decide +kernel
theorem dJ0_indexOf_7cf53_12 : decode cJ0_indexOf_7cf53 12 = .ok (.iload_n 2, 1) := by decide +kernel
theorem dJ0_indexOf_7cf53_13 : decode cJ0_indexOf_7cf53 13 = .ok (.aload_n 0, 1) := by decide +kernel
theorem dJ0_indexOf_7cf53_14 : decode cJ0_indexOf_7cf53 14 = .ok (.invokevirtual 505, 3) := by decide +kernel
theorem dJ0_indexOf_7cf53_17 : decode cJ0_indexOf_7cf53 17 = .ok (.invokestatic 637, 3) := by decide +kernel
theorem dJ0_indexOf_7cf53_20 : decode cJ0_indexOf_7cf53 20 = .ok (.goto 16, 3) := by decide +kernel
theorem dJ0_indexOf_7cf53_23 : decode cJ0_indexOf_7cf53 23 = .ok (.aload_n 0, 1) := by decide +kernel
theorem dJ0_indexOf_7cf53_24 : decode cJ0_indexOf_7cf53 24 = .ok (.getfield 9, 3) := by decide +kernel
theorem dJ0_indexOf_7cf53_27 : decode cJ0_indexOf_7cf53 27 = .ok (.iload_n 1, 1) := by decide +kernel
theorem dJ0_indexOf_7cf53_28 : decode cJ0_indexOf_7cf53 28 = .ok (.iload_n 2, 1) := by decide +kernel
theorem dJ0_indexOf_7cf53_29 : decode cJ0_indexOf_7cf53 29 = .ok (.aload_n 0, 1) := by decide +kernel
theorem dJ0_indexOf_7cf53_30 : decode cJ0_indexOf_7cf53 30 = .ok (.invokevirtual 505, 3) := by decide +kernel
theorem dJ0_indexOf_7cf53_33 : decode cJ0_indexOf_7cf53 33 = .ok (.invokestatic 640, 3) := by decide +kernel
theorem dJ0_indexOf_7cf53_36 : decode cJ0_indexOf_7cf53 36 = .ok (.ireturn, 1) := by decide +kernel
theorem dJ0_coder_7d493_0 : decode cJ0_coder_7d493 0 = .ok (.getstatic 38, 3) := by decide +kernel
theorem dJ0_coder_7d493_3 : decode cJ0_coder_7d493 3 = .ok (.ifCond .eq 10, 3) := by decide +kernel
theorem dJ0_coder_7d493_6 : decode cJ0_coder_7d493 6 = .ok (.aload_n 0, 1) := by decide +kernel
theorem dJ0_coder_7d493_7 : decode cJ0_coder_7d493 7 = .ok (.getfield 15, 3) := by decide +kernel
theorem dJ0_coder_7d493_10 : decode cJ0_coder_7d493 10 = .ok (.goto 4, 3) := by decide +kernel
theorem dJ0_coder_7d493_13 : decode cJ0_coder_7d493 13 = .ok (.iconst 1, 1) := by decide +kernel
theorem dJ0_coder_7d493_14 : decode cJ0_coder_7d493 14 = .ok (.ireturn, 1) := by decide +kernel
theorem dJ0_isLatin1_aae02_0 : decode cJ0_isLatin1_aae02 0 = .ok (.getstatic 38, 3) := by decide +kernel
theorem dJ0_isLatin1_aae02_3 : decode cJ0_isLatin1_aae02 3 = .ok (.ifCond .eq 14, 3) := by decide +kernel
theorem dJ0_isLatin1_aae02_6 : decode cJ0_isLatin1_aae02 6 = .ok (.aload_n 0, 1) := by decide +kernel
theorem dJ0_isLatin1_aae02_7 : decode cJ0_isLatin1_aae02 7 = .ok (.getfield 15, 3) := by decide +kernel
theorem dJ0_isLatin1_aae02_10 : decode cJ0_isLatin1_aae02 10 = .ok (.ifCond .ne 7, 3) := by decide +kernel
theorem dJ0_isLatin1_aae02_13 : decode cJ0_isLatin1_aae02 13 = .ok (.iconst 1, 1) := by decide +kernel
theorem dJ0_isLatin1_aae02_14 : decode cJ0_isLatin1_aae02 14 = .ok (.goto 4, 3) := by decide +kernel
theorem dJ0_isLatin1_aae02_17 : decode cJ0_isLatin1_aae02 17 = .ok (.iconst 0, 1) := by decide +kernel
theorem dJ0_isLatin1_aae02_18 : decode cJ0_isLatin1_aae02 18 = .ok (.ireturn, 1) := by decide +kernel
theorem dJ0_checkBoundsBeginEnd_23922_0 : decode cJ0_checkBoundsBeginEnd_23922 0 = .ok (.iload_n 0, 1) := by decide +kernel
theorem dJ0_checkBoundsBeginEnd_23922_1 : decode cJ0_checkBoundsBeginEnd_23922 1 = .ok (.iload_n 1, 1) := by decide +kernel
theorem dJ0_checkBoundsBeginEnd_23922_2 : decode cJ0_checkBoundsBeginEnd_23922 2 = .ok (.iload_n 2, 1) := by decide +kernel
theorem dJ0_checkBoundsBeginEnd_23922_3 : decode cJ0_checkBoundsBeginEnd_23922 3 = .ok (.getstatic 1053, 3) := by decide +kernel
theorem dJ0_checkBoundsBeginEnd_23922_6 : decode cJ0_checkBoundsBeginEnd_23922 6 = .ok (.invokestatic 1062, 3) := by decide +kernel
theorem dJ0_checkBoundsBeginEnd_23922_9 : decode cJ0_checkBoundsBeginEnd_23922 9 = .ok (.pop, 1) := by decide +kernel
theorem dJ0_checkBoundsBeginEnd_23922_10 : decode cJ0_checkBoundsBeginEnd_23922 10 = .ok (.return_, 1) := by decide +kernel
theorem dJ1_canEncode_9a6ad_0 : decode cJ1_canEncode_9a6ad 0 = .ok (.iload_n 0, 1) := by decide +kernel
theorem dJ1_canEncode_9a6ad_1 : decode cJ1_canEncode_9a6ad 1 = .ok (.ifCond .lt 14, 3) := by decide +kernel
theorem dJ1_canEncode_9a6ad_4 : decode cJ1_canEncode_9a6ad 4 = .ok (.iload_n 0, 1) := by decide +kernel
theorem dJ1_canEncode_9a6ad_5 : decode cJ1_canEncode_9a6ad 5 = .ok (.sipush 255, 3) := by decide +kernel
theorem dJ1_canEncode_9a6ad_8 : decode cJ1_canEncode_9a6ad 8 = .ok (.if_icmp .gt 7, 3) := by decide +kernel
theorem dJ1_canEncode_9a6ad_11 : decode cJ1_canEncode_9a6ad 11 = .ok (.iconst 1, 1) := by decide +kernel
theorem dJ1_canEncode_9a6ad_12 : decode cJ1_canEncode_9a6ad 12 = .ok (.goto 4, 3) := by decide +kernel
theorem dJ1_canEncode_9a6ad_15 : decode cJ1_canEncode_9a6ad 15 = .ok (.iconst 0, 1) := by decide +kernel
theorem dJ1_canEncode_9a6ad_16 : decode cJ1_canEncode_9a6ad 16 = .ok (.ireturn, 1) := by decide +kernel
theorem dJ1_indexOf_4cfef_0 : decode cJ1_indexOf_4cfef 0 = .ok (.iload_n 1, 1) := by decide +kernel
theorem dJ1_indexOf_4cfef_1 : decode cJ1_indexOf_4cfef 1 = .ok (.invokestatic 88, 3) := by decide +kernel
theorem dJ1_indexOf_4cfef_4 : decode cJ1_indexOf_4cfef 4 = .ok (.ifCond .ne 5, 3) := by decide +kernel
theorem dJ1_indexOf_4cfef_7 : decode cJ1_indexOf_4cfef 7 = .ok (.iconst (-1), 1) := by decide +kernel
theorem dJ1_indexOf_4cfef_8 : decode cJ1_indexOf_4cfef 8 = .ok (.ireturn, 1) := by decide +kernel
theorem dJ1_indexOf_4cfef_9 : decode cJ1_indexOf_4cfef 9 = .ok (.iload_n 2, 1) := by decide +kernel
theorem dJ1_indexOf_4cfef_10 : decode cJ1_indexOf_4cfef 10 = .ok (.iconst 0, 1) := by decide +kernel
theorem dJ1_indexOf_4cfef_11 : decode cJ1_indexOf_4cfef 11 = .ok (.invokestatic 92, 3) := by decide +kernel
theorem dJ1_indexOf_4cfef_14 : decode cJ1_indexOf_4cfef 14 = .ok (.istore_n 2, 1) := by decide +kernel
theorem dJ1_indexOf_4cfef_15 : decode cJ1_indexOf_4cfef 15 = .ok (.iload_n 3, 1) := by decide +kernel
theorem dJ1_indexOf_4cfef_16 : decode cJ1_indexOf_4cfef 16 = .ok (.aload_n 0, 1) := by decide +kernel
theorem dJ1_indexOf_4cfef_17 : decode cJ1_indexOf_4cfef 17 = .ok (.arraylength, 1) := by decide +kernel
theorem dJ1_indexOf_4cfef_18 : decode cJ1_indexOf_4cfef 18 = .ok (.invokestatic 38, 3) := by decide +kernel
theorem dJ1_indexOf_4cfef_21 : decode cJ1_indexOf_4cfef 21 = .ok (.istore_n 3, 1) := by decide +kernel
theorem dJ1_indexOf_4cfef_22 : decode cJ1_indexOf_4cfef 22 = .ok (.iload_n 2, 1) := by decide +kernel
theorem dJ1_indexOf_4cfef_23 : decode cJ1_indexOf_4cfef 23 = .ok (.iload_n 3, 1) := by decide +kernel
theorem dJ1_indexOf_4cfef_24 : decode cJ1_indexOf_4cfef 24 = .ok (.if_icmp .lt 5, 3) := by decide +kernel
theorem dJ1_indexOf_4cfef_27 : decode cJ1_indexOf_4cfef 27 = .ok (.iconst (-1), 1) := by decide +kernel
theorem dJ1_indexOf_4cfef_28 : decode cJ1_indexOf_4cfef 28 = .ok (.ireturn, 1) := by decide +kernel
theorem dJ1_indexOf_4cfef_29 : decode cJ1_indexOf_4cfef 29 = .ok (.aload_n 0, 1) := by decide +kernel
theorem dJ1_indexOf_4cfef_30 : decode cJ1_indexOf_4cfef 30 = .ok (.iload_n 1, 1) := by decide +kernel
theorem dJ1_indexOf_4cfef_31 : decode cJ1_indexOf_4cfef 31 = .ok (.iload_n 2, 1) := by decide +kernel
theorem dJ1_indexOf_4cfef_32 : decode cJ1_indexOf_4cfef 32 = .ok (.iload_n 3, 1) := by decide +kernel
theorem dJ1_indexOf_4cfef_33 : decode cJ1_indexOf_4cfef 33 = .ok (.invokestatic 95, 3) := by decide +kernel
theorem dJ1_indexOf_4cfef_36 : decode cJ1_indexOf_4cfef 36 = .ok (.ireturn, 1) := by decide +kernel
theorem dJ1_indexOfChar_4cfef_0 : decode cJ1_indexOfChar_4cfef 0 = .ok (.iload_n 1, 1) := by decide +kernel
theorem dJ1_indexOfChar_4cfef_1 : decode cJ1_indexOfChar_4cfef 1 = .ok (.i2b, 1) := by decide +kernel
theorem dJ1_indexOfChar_4cfef_2 : decode cJ1_indexOfChar_4cfef 2 = .ok (.istore 4, 2) := by decide +kernel
theorem dJ1_indexOfChar_4cfef_4 : decode cJ1_indexOfChar_4cfef 4 = .ok (.iload_n 2, 1) := by decide +kernel
theorem dJ1_indexOfChar_4cfef_5 : decode cJ1_indexOfChar_4cfef 5 = .ok (.istore 5, 2) := by decide +kernel
theorem dJ1_indexOfChar_4cfef_7 : decode cJ1_indexOfChar_4cfef 7 = .ok (.iload 5, 2) := by decide +kernel
theorem dJ1_indexOfChar_4cfef_9 : decode cJ1_indexOfChar_4cfef 9 = .ok (.iload_n 3, 1) := by decide +kernel
theorem dJ1_indexOfChar_4cfef_10 : decode cJ1_indexOfChar_4cfef 10 = .ok (.if_icmp .ge 21, 3) := by decide +kernel
theorem dJ1_indexOfChar_4cfef_13 : decode cJ1_indexOfChar_4cfef 13 = .ok (.aload_n 0, 1) := by decide +kernel
theorem dJ1_indexOfChar_4cfef_14 : decode cJ1_indexOfChar_4cfef 14 = .ok (.iload 5, 2) := by decide +kernel
theorem dJ1_indexOfChar_4cfef_16 : decode cJ1_indexOfChar_4cfef 16 = .ok (.baload, 1) := by decide +kernel
theorem dJ1_indexOfChar_4cfef_17 : decode cJ1_indexOfChar_4cfef 17 = .ok (.iload 4, 2) := by decide +kernel
theorem dJ1_indexOfChar_4cfef_19 : decode cJ1_indexOfChar_4cfef 19 = .ok (.if_icmp .ne 6, 3) := by decide +kernel
theorem dJ1_indexOfChar_4cfef_22 : decode cJ1_indexOfChar_4cfef 22 = .ok (.iload 5, 2) := by decide +kernel
theorem dJ1_indexOfChar_4cfef_24 : decode cJ1_indexOfChar_4cfef 24 = .ok (.ireturn, 1) := by decide +kernel
theorem dJ1_indexOfChar_4cfef_25 : decode cJ1_indexOfChar_4cfef 25 = .ok (.iinc 5 1, 3) := by decide +kernel
theorem dJ1_indexOfChar_4cfef_28 : decode cJ1_indexOfChar_4cfef 28 = .ok (.goto (-21), 3) := by decide +kernel
theorem dJ1_indexOfChar_4cfef_31 : decode cJ1_indexOfChar_4cfef 31 = .ok (.iconst (-1), 1) := by decide +kernel
theorem dJ1_indexOfChar_4cfef_32 : decode cJ1_indexOfChar_4cfef 32 = .ok (.ireturn, 1) := by decide +kernel
theorem dJ7_fill_53178_0 : decode cJ7_fill_53178 0 = .ok (.iconst 0, 1) := by decide +kernel
theorem dJ7_fill_53178_1 : decode cJ7_fill_53178 1 = .ok (.istore_n 2, 1) := by decide +kernel
theorem dJ7_fill_53178_2 : decode cJ7_fill_53178 2 = .ok (.aload_n 0, 1) := by decide +kernel
theorem dJ7_fill_53178_3 : decode cJ7_fill_53178 3 = .ok (.arraylength, 1) := by decide +kernel
theorem dJ7_fill_53178_4 : decode cJ7_fill_53178 4 = .ok (.istore_n 3, 1) := by decide +kernel
theorem dJ7_fill_53178_5 : decode cJ7_fill_53178 5 = .ok (.iload_n 2, 1) := by decide +kernel
theorem dJ7_fill_53178_6 : decode cJ7_fill_53178 6 = .ok (.iload_n 3, 1) := by decide +kernel
theorem dJ7_fill_53178_7 : decode cJ7_fill_53178 7 = .ok (.if_icmp .ge 13, 3) := by decide +kernel
theorem dJ7_fill_53178_10 : decode cJ7_fill_53178 10 = .ok (.aload_n 0, 1) := by decide +kernel
theorem dJ7_fill_53178_11 : decode cJ7_fill_53178 11 = .ok (.iload_n 2, 1) := by decide +kernel
theorem dJ7_fill_53178_12 : decode cJ7_fill_53178 12 = .ok (.iload_n 1, 1) := by decide +kernel
theorem dJ7_fill_53178_13 : decode cJ7_fill_53178 13 = .ok (.iastore, 1) := by decide +kernel
theorem dJ7_fill_53178_14 : decode cJ7_fill_53178 14 = .ok (.iinc 2 1, 3) := by decide +kernel
theorem dJ7_fill_53178_17 : decode cJ7_fill_53178 17 = .ok (.goto (-12), 3) := by decide +kernel
theorem dJ7_fill_53178_20 : decode cJ7_fill_53178 20 = .ok (.return_, 1) := by decide +kernel
