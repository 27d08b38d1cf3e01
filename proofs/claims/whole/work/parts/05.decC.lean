theorem dX12_init_0 : decode cX12_init 0 = .ok (.aload_n 0, 1) := by decide +kernel
theorem dX12_init_1 : decode cX12_init 1 = .ok (.invokespecial 1, 3) := by decide +kernel
theorem dX12_init_4 : decode cX12_init 4 = .ok (.aload_n 0, 1) := by decide +kernel
theorem dX12_init_5 : decode cX12_init 5 = .ok (.bipush 8, 2) := by decide +kernel
theorem dX12_init_7 : decode cX12_init 7 = .ok (.newarray .int, 2) := by decide +kernel
theorem dX12_init_9 : decode cX12_init 9 = .ok (.putfield 7, 3) := by decide +kernel
theorem dX12_init_12 : decode cX12_init 12 = .ok (.aload_n 0, 1) := by decide +kernel
theorem dX12_init_13 : decode cX12_init 13 = .ok (.bipush 8, 2) := by decide +kernel
theorem dX12_init_15 : decode cX12_init 15 = .ok (.newarray .int, 2) := by decide +kernel
theorem dX12_init_17 : decode cX12_init 17 = .ok (.putfield 13, 3) := by decide +kernel
theorem dX12_init_20 : decode cX12_init 20 = .ok (.aload_n 0, 1) := by decide +kernel
theorem dX12_init_21 : decode cX12_init 21 = .ok (.sipush 320, 3) := by decide +kernel
theorem dX12_init_24 : decode cX12_init 24 = .ok (.newarray .int, 2) := by decide +kernel
theorem dX12_init_26 : decode cX12_init 26 = .ok (.putfield 16, 3) := by decide +kernel
theorem dX12_init_29 : decode cX12_init 29 = .ok (.aload_n 0, 1) := by decide +kernel
theorem dX12_init_30 : decode cX12_init 30 = .ok (.bipush 40, 2) := by decide +kernel
theorem dX12_init_32 : decode cX12_init 32 = .ok (.newarray .int, 2) := by decide +kernel
theorem dX12_init_34 : decode cX12_init 34 = .ok (.putfield 19, 3) := by decide +kernel
theorem dX12_init_37 : decode cX12_init 37 = .ok (.aload_n 0, 1) := by decide +kernel
theorem dX12_init_38 : decode cX12_init 38 = .ok (.bipush 100, 2) := by decide +kernel
theorem dX12_init_40 : decode cX12_init 40 = .ok (.newarray .int, 2) := by decide +kernel
theorem dX12_init_42 : decode cX12_init 42 = .ok (.putfield 22, 3) := by decide +kernel
theorem dX12_init_45 : decode cX12_init 45 = .ok (.aload_n 0, 1) := by decide +kernel
theorem dX12_init_46 : decode cX12_init 46 = .ok (.bipush 34, 2) := by decide +kernel
theorem dX12_init_48 : decode cX12_init 48 = .ok (.newarray .int, 2) := by decide +kernel
theorem dX12_init_50 : decode cX12_init 50 = .ok (.putfield 25, 3) := by decide +kernel
theorem dX12_init_53 : decode cX12_init 53 = .ok (.aload_n 0, 1) := by decide +kernel
theorem dX12_init_54 : decode cX12_init 54 = .ok (.bipush 34, 2) := by decide +kernel
theorem dX12_init_56 : decode cX12_init 56 = .ok (.newarray .int, 2) := by decide +kernel
theorem dX12_init_58 : decode cX12_init 58 = .ok (.putfield 28, 3) := by decide +kernel
theorem dX12_init_61 : decode cX12_init 61 = .ok (.aload_n 0, 1) := by decide +kernel
theorem dX12_init_62 : decode cX12_init 62 = .ok (.bipush 34, 2) := by decide +kernel
theorem dX12_init_64 : decode cX12_init 64 = .ok (.newarray .int, 2) := by decide +kernel
theorem dX12_init_66 : decode cX12_init 66 = .ok (.putfield 31, 3) := by decide +kernel
theorem dX12_init_69 : decode cX12_init 69 = .ok (.aload_n 0, 1) := by decide +kernel
theorem dX12_init_70 : decode cX12_init 70 = .ok (.sipush 816, 3) := by decide +kernel
theorem dX12_init_73 : decode cX12_init 73 = .ok (.newarray .int, 2) := by decide +kernel
theorem dX12_init_75 : decode cX12_init 75 = .ok (.putfield 34, 3) := by decide +kernel
theorem dX12_init_78 : decode cX12_init 78 = .ok (.aload_n 0, 1) := by decide +kernel
theorem dX12_init_79 : decode cX12_init 79 = .ok (.bipush 68, 2) := by decide +kernel
theorem dX12_init_81 : decode cX12_init 81 = .ok (.newarray .int, 2) := by decide +kernel
theorem dX12_init_83 : decode cX12_init 83 = .ok (.putfield 37, 3) := by decide +kernel
theorem dX12_init_86 : decode cX12_init 86 = .ok (.aload_n 0, 1) := by decide +kernel
theorem dX12_init_87 : decode cX12_init 87 = .ok (.iconst 2, 1) := by decide +kernel
theorem dX12_init_88 : decode cX12_init 88 = .ok (.newarray .boolean, 2) := by decide +kernel
theorem dX12_init_90 : decode cX12_init 90 = .ok (.putfield 40, 3) := by decide +kernel
theorem dX12_init_93 : decode cX12_init 93 = .ok (.aload_n 0, 1) := by decide +kernel
theorem dX12_init_94 : decode cX12_init 94 = .ok (.bipush 16, 2) := by decide +kernel
theorem dX12_init_96 : decode cX12_init 96 = .ok (.newarray .int, 2) := by decide +kernel
theorem dX12_init_98 : decode cX12_init 98 = .ok (.putfield 44, 3) := by decide +kernel
theorem dX12_init_101 : decode cX12_init 101 = .ok (.iconst 0, 1) := by decide +kernel
theorem dX12_init_102 : decode cX12_init 102 = .ok (.istore_n 1, 1) := by decide +kernel
theorem dX12_init_103 : decode cX12_init 103 = .ok (.iload_n 1, 1) := by decide +kernel
theorem dX12_init_104 : decode cX12_init 104 = .ok (.bipush 8, 2) := by decide +kernel
theorem dX12_init_106 : decode cX12_init 106 = .ok (.if_icmp .ge 17, 3) := by decide +kernel
theorem dX12_init_109 : decode cX12_init 109 = .ok (.aload_n 0, 1) := by decide +kernel
theorem dX12_init_110 : decode cX12_init 110 = .ok (.getfield 7, 3) := by decide +kernel
theorem dX12_init_113 : decode cX12_init 113 = .ok (.iload_n 1, 1) := by decide +kernel
theorem dX12_init_114 : decode cX12_init 114 = .ok (.ldc 47, 2) := by decide +kernel
theorem dX12_init_116 : decode cX12_init 116 = .ok (.iastore, 1) := by decide +kernel
theorem dX12_init_117 : decode cX12_init 117 = .ok (.iinc 1 1, 3) := by decide +kernel
theorem dX12_init_120 : decode cX12_init 120 = .ok (.goto (-17), 3) := by decide +kernel
theorem dX12_init_123 : decode cX12_init 123 = .ok (.return_, 1) := by decide +kernel
theorem dX12_in_0 : decode cX12_in 0 = .ok (.iload_n 0, 1) := by decide +kernel
theorem dX12_in_1 : decode cX12_in 1 = .ok (.iload_n 1, 1) := by decide +kernel
theorem dX12_in_2 : decode cX12_in 2 = .ok (.if_icmp .lt 12, 3) := by decide +kernel
theorem dX12_in_5 : decode cX12_in 5 = .ok (.iload_n 0, 1) := by decide +kernel
theorem dX12_in_6 : decode cX12_in 6 = .ok (.iload_n 2, 1) := by decide +kernel
theorem dX12_in_7 : decode cX12_in 7 = .ok (.if_icmp .gt 7, 3) := by decide +kernel
theorem dX12_in_10 : decode cX12_in 10 = .ok (.iconst 1, 1) := by decide +kernel
theorem dX12_in_11 : decode cX12_in 11 = .ok (.goto 4, 3) := by decide +kernel
theorem dX12_in_14 : decode cX12_in 14 = .ok (.iconst 0, 1) := by decide +kernel
theorem dX12_in_15 : decode cX12_in 15 = .ok (.ireturn, 1) := by decide +kernel
theorem dX12_has_0 : decode cX12_has 0 = .ok (.iload_n 0, 1) := by decide +kernel
theorem dX12_has_1 : decode cX12_has 1 = .ok (.iload_n 1, 1) := by decide +kernel
theorem dX12_has_2 : decode cX12_has 2 = .ok (.ishr, 1) := by decide +kernel
theorem dX12_has_3 : decode cX12_has 3 = .ok (.iconst 1, 1) := by decide +kernel
theorem dX12_has_4 : decode cX12_has 4 = .ok (.iand, 1) := by decide +kernel
theorem dX12_has_5 : decode cX12_has 5 = .ok (.iconst 1, 1) := by decide +kernel
theorem dX12_has_6 : decode cX12_has 6 = .ok (.if_icmp .ne 7, 3) := by decide +kernel
theorem dX12_has_9 : decode cX12_has 9 = .ok (.iconst 1, 1) := by decide +kernel
theorem dX12_has_10 : decode cX12_has 10 = .ok (.goto 4, 3) := by decide +kernel
theorem dX12_has_13 : decode cX12_has 13 = .ok (.iconst 0, 1) := by decide +kernel
theorem dX12_has_14 : decode cX12_has 14 = .ok (.ireturn, 1) := by decide +kernel
theorem dX12_ones_0 : decode cX12_ones 0 = .ok (.iconst 0, 1) := by decide +kernel
theorem dX12_ones_1 : decode cX12_ones 1 = .ok (.istore_n 1, 1) := by decide +kernel
theorem dX12_ones_2 : decode cX12_ones 2 = .ok (.iconst 0, 1) := by decide +kernel
theorem dX12_ones_3 : decode cX12_ones 3 = .ok (.istore_n 2, 1) := by decide +kernel
theorem dX12_ones_4 : decode cX12_ones 4 = .ok (.iload_n 2, 1) := by decide +kernel
theorem dX12_ones_5 : decode cX12_ones 5 = .ok (.bipush 8, 2) := by decide +kernel
theorem dX12_ones_7 : decode cX12_ones 7 = .ok (.if_icmp .ge 17, 3) := by decide +kernel
theorem dX12_ones_10 : decode cX12_ones 10 = .ok (.iload_n 1, 1) := by decide +kernel
theorem dX12_ones_11 : decode cX12_ones 11 = .ok (.iload_n 0, 1) := by decide +kernel
theorem dX12_ones_12 : decode cX12_ones 12 = .ok (.iload_n 2, 1) := by decide +kernel
theorem dX12_ones_13 : decode cX12_ones 13 = .ok (.ishr, 1) := by decide +kernel
theorem dX12_ones_14 : decode cX12_ones 14 = .ok (.iconst 1, 1) := by decide +kernel
theorem dX12_ones_15 : decode cX12_ones 15 = .ok (.iand, 1) := by decide +kernel
theorem dX12_ones_16 : decode cX12_ones 16 = .ok (.iadd, 1) := by decide +kernel
theorem dX12_ones_17 : decode cX12_ones 17 = .ok (.istore_n 1, 1) := by decide +kernel
theorem dX12_ones_18 : decode cX12_ones 18 = .ok (.iinc 2 1, 3) := by decide +kernel
theorem dX12_ones_21 : decode cX12_ones 21 = .ok (.goto (-17), 3) := by decide +kernel
theorem dX12_ones_24 : decode cX12_ones 24 = .ok (.iload_n 1, 1) := by decide +kernel
theorem dX12_ones_25 : decode cX12_ones 25 = .ok (.ireturn, 1) := by decide +kernel
theorem dX12_found_0 : decode cX12_found 0 = .ok (.aload_n 0, 1) := by decide +kernel
theorem dX12_found_1 : decode cX12_found 1 = .ok (.iload_n 1, 1) := by decide +kernel
theorem dX12_found_2 : decode cX12_found 2 = .ok (.putfield 48, 3) := by decide +kernel
theorem dX12_found_5 : decode cX12_found 5 = .ok (.ldc 52, 2) := by decide +kernel
theorem dX12_found_7 : decode cX12_found 7 = .ok (.iload_n 1, 1) := by decide +kernel
theorem dX12_found_8 : decode cX12_found 8 = .ok (.isub, 1) := by decide +kernel
theorem dX12_found_9 : decode cX12_found 9 = .ok (.ireturn, 1) := by decide +kernel
theorem dX12_well_0 : decode cX12_well 0 = .ok (.aload_n 0, 1) := by decide +kernel
theorem dX12_well_1 : decode cX12_well 1 = .ok (.iconst 0, 1) := by decide +kernel
theorem dX12_well_2 : decode cX12_well 2 = .ok (.putfield 48, 3) := by decide +kernel
theorem dX12_well_5 : decode cX12_well 5 = .ok (.iload_n 1, 1) := by decide +kernel
theorem dX12_well_6 : decode cX12_well 6 = .ok (.ireturn, 1) := by decide +kernel
theorem dX12_copies_0 : decode cX12_copies 0 = .ok (.iconst 0, 1) := by decide +kernel
theorem dX12_copies_1 : decode cX12_copies 1 = .ok (.istore 4, 2) := by decide +kernel
theorem dX12_copies_3 : decode cX12_copies 3 = .ok (.iload 4, 2) := by decide +kernel
theorem dX12_copies_5 : decode cX12_copies 5 = .ok (.bipush 34, 2) := by decide +kernel
theorem dX12_copies_7 : decode cX12_copies 7 = .ok (.if_icmp .ge 21, 3) := by decide +kernel
theorem dX12_copies_10 : decode cX12_copies 10 = .ok (.aload_n 2, 1) := by decide +kernel
theorem dX12_copies_11 : decode cX12_copies 11 = .ok (.iload_n 3, 1) := by decide +kernel
theorem dX12_copies_12 : decode cX12_copies 12 = .ok (.iload 4, 2) := by decide +kernel
theorem dX12_copies_14 : decode cX12_copies 14 = .ok (.iadd, 1) := by decide +kernel
theorem dX12_copies_15 : decode cX12_copies 15 = .ok (.aload_n 0, 1) := by decide +kernel
theorem dX12_copies_16 : decode cX12_copies 16 = .ok (.iload_n 1, 1) := by decide +kernel
theorem dX12_copies_17 : decode cX12_copies 17 = .ok (.iload 4, 2) := by decide +kernel
theorem dX12_copies_19 : decode cX12_copies 19 = .ok (.iadd, 1) := by decide +kernel
theorem dX12_copies_20 : decode cX12_copies 20 = .ok (.iaload, 1) := by decide +kernel
theorem dX12_copies_21 : decode cX12_copies 21 = .ok (.iastore, 1) := by decide +kernel
theorem dX12_copies_22 : decode cX12_copies 22 = .ok (.iinc 4 1, 3) := by decide +kernel
theorem dX12_copies_25 : decode cX12_copies 25 = .ok (.goto (-22), 3) := by decide +kernel
theorem dX12_copies_28 : decode cX12_copies 28 = .ok (.return_, 1) := by decide +kernel
theorem dX12_isRow_0 : decode cX12_isRow 0 = .ok (.iload_n 0, 1) := by decide +kernel
theorem dX12_isRow_1 : decode cX12_isRow 1 = .ok (.iconst 0, 1) := by decide +kernel
theorem dX12_isRow_2 : decode cX12_isRow 2 = .ok (.bipush 7, 2) := by decide +kernel
theorem dX12_isRow_4 : decode cX12_isRow 4 = .ok (.invokestatic 53, 3) := by decide +kernel
theorem dX12_isRow_7 : decode cX12_isRow 7 = .ok (.ireturn, 1) := by decide +kernel
theorem dX12_isMissing_0 : decode cX12_isMissing 0 = .ok (.aload_n 0, 1) := by decide +kernel
theorem dX12_isMissing_1 : decode cX12_isMissing 1 = .ok (.getfield 7, 3) := by decide +kernel
theorem dX12_isMissing_4 : decode cX12_isMissing 4 = .ok (.iload_n 1, 1) := by decide +kernel
theorem dX12_isMissing_5 : decode cX12_isMissing 5 = .ok (.iaload, 1) := by decide +kernel
theorem dX12_isMissing_6 : decode cX12_isMissing 6 = .ok (.ldc 47, 2) := by decide +kernel
theorem dX12_isMissing_8 : decode cX12_isMissing 8 = .ok (.if_icmp .ne 7, 3) := by decide +kernel
theorem dX12_isMissing_11 : decode cX12_isMissing 11 = .ok (.iconst 1, 1) := by decide +kernel
theorem dX12_isMissing_12 : decode cX12_isMissing 12 = .ok (.goto 4, 3) := by decide +kernel
theorem dX12_isMissing_15 : decode cX12_isMissing 15 = .ok (.iconst 0, 1) := by decide +kernel
theorem dX12_isMissing_16 : decode cX12_isMissing 16 = .ok (.ireturn, 1) := by decide +kernel
theorem dX12_cut_0 : decode cX12_cut 0 = .ok (.iload_n 0, 1) := by decide +kernel
theorem dX12_cut_1 : decode cX12_cut 1 = .ok (.ifCond .ne 13, 3) := by decide +kernel
theorem dX12_cut_4 : decode cX12_cut 4 = .ok (.iload_n 1, 1) := by decide +kernel
theorem dX12_cut_5 : decode cX12_cut 5 = .ok (.bipush 24, 2) := by decide +kernel
theorem dX12_cut_7 : decode cX12_cut 7 = .ok (.ishl, 1) := by decide +kernel
theorem dX12_cut_8 : decode cX12_cut 8 = .ok (.bipush 24, 2) := by decide +kernel
theorem dX12_cut_10 : decode cX12_cut 10 = .ok (.ishr, 1) := by decide +kernel
theorem dX12_cut_11 : decode cX12_cut 11 = .ok (.goto 19, 3) := by decide +kernel
theorem dX12_cut_14 : decode cX12_cut 14 = .ok (.iload_n 0, 1) := by decide +kernel
theorem dX12_cut_15 : decode cX12_cut 15 = .ok (.iconst 1, 1) := by decide +kernel
theorem dX12_cut_16 : decode cX12_cut 16 = .ok (.if_icmp .ne 13, 3) := by decide +kernel
theorem dX12_cut_19 : decode cX12_cut 19 = .ok (.iload_n 1, 1) := by decide +kernel
theorem dX12_cut_20 : decode cX12_cut 20 = .ok (.bipush 16, 2) := by decide +kernel
theorem dX12_cut_22 : decode cX12_cut 22 = .ok (.ishl, 1) := by decide +kernel
theorem dX12_cut_23 : decode cX12_cut 23 = .ok (.bipush 16, 2) := by decide +kernel
theorem dX12_cut_25 : decode cX12_cut 25 = .ok (.ishr, 1) := by decide +kernel
theorem dX12_cut_26 : decode cX12_cut 26 = .ok (.goto 4, 3) := by decide +kernel
theorem dX12_cut_29 : decode cX12_cut 29 = .ok (.iload_n 1, 1) := by decide +kernel
theorem dX12_cut_30 : decode cX12_cut 30 = .ok (.ireturn, 1) := by decide +kernel
theorem dX12_row_0 : decode cX12_row 0 = .ok (.iload_n 1, 1) := by decide +kernel
theorem dX12_row_1 : decode cX12_row 1 = .ok (.invokestatic 57, 3) := by decide +kernel
theorem dX12_row_4 : decode cX12_row 4 = .ok (.ifCond .eq 18, 3) := by decide +kernel
theorem dX12_row_7 : decode cX12_row 7 = .ok (.iload_n 2, 1) := by decide +kernel
theorem dX12_row_8 : decode cX12_row 8 = .ok (.iconst 0, 1) := by decide +kernel
theorem dX12_row_9 : decode cX12_row 9 = .ok (.iconst 2, 1) := by decide +kernel
theorem dX12_row_10 : decode cX12_row 10 = .ok (.invokestatic 53, 3) := by decide +kernel
theorem dX12_row_13 : decode cX12_row 13 = .ok (.ifCond .eq 9, 3) := by decide +kernel
theorem dX12_row_16 : decode cX12_row 16 = .ok (.iload_n 3, 1) := by decide +kernel
theorem dX12_row_17 : decode cX12_row 17 = .ok (.bipush 40, 2) := by decide +kernel
theorem dX12_row_19 : decode cX12_row 19 = .ok (.if_icmp .le 6, 3) := by decide +kernel
theorem dX12_row_22 : decode cX12_row 22 = .ok (.ldc 61, 2) := by decide +kernel
theorem dX12_row_24 : decode cX12_row 24 = .ok (.ireturn, 1) := by decide +kernel
theorem dX12_row_25 : decode cX12_row 25 = .ok (.iload_n 3, 1) := by decide +kernel
theorem dX12_row_26 : decode cX12_row 26 = .ok (.ifCond .ge 9, 3) := by decide +kernel
theorem dX12_row_29 : decode cX12_row 29 = .ok (.aload_n 0, 1) := by decide +kernel
theorem dX12_row_30 : decode cX12_row 30 = .ok (.iconst 4, 1) := by decide +kernel
theorem dX12_row_31 : decode cX12_row 31 = .ok (.invokevirtual 62, 3) := by decide +kernel
theorem dX12_row_34 : decode cX12_row 34 = .ok (.ireturn, 1) := by decide +kernel
theorem dX12_row_35 : decode cX12_row 35 = .ok (.aload_n 0, 1) := by decide +kernel
theorem dX12_row_36 : decode cX12_row 36 = .ok (.getfield 7, 3) := by decide +kernel
theorem dX12_row_39 : decode cX12_row 39 = .ok (.iload_n 1, 1) := by decide +kernel
theorem dX12_row_40 : decode cX12_row 40 = .ok (.iload_n 2, 1) := by decide +kernel
theorem dX12_row_41 : decode cX12_row 41 = .ok (.iastore, 1) := by decide +kernel
theorem dX12_row_42 : decode cX12_row 42 = .ok (.aload_n 0, 1) := by decide +kernel
theorem dX12_row_43 : decode cX12_row 43 = .ok (.getfield 13, 3) := by decide +kernel
theorem dX12_row_46 : decode cX12_row 46 = .ok (.iload_n 1, 1) := by decide +kernel
theorem dX12_row_47 : decode cX12_row 47 = .ok (.iload_n 3, 1) := by decide +kernel
theorem dX12_row_48 : decode cX12_row 48 = .ok (.iastore, 1) := by decide +kernel
theorem dX12_row_49 : decode cX12_row 49 = .ok (.iconst 0, 1) := by decide +kernel
theorem dX12_row_50 : decode cX12_row 50 = .ok (.istore 4, 2) := by decide +kernel
theorem dX12_row_52 : decode cX12_row 52 = .ok (.iload 4, 2) := by decide +kernel
theorem dX12_row_54 : decode cX12_row 54 = .ok (.bipush 40, 2) := by decide +kernel
theorem dX12_row_56 : decode cX12_row 56 = .ok (.if_icmp .ge 22, 3) := by decide +kernel
theorem dX12_row_59 : decode cX12_row 59 = .ok (.aload_n 0, 1) := by decide +kernel
theorem dX12_row_60 : decode cX12_row 60 = .ok (.getfield 16, 3) := by decide +kernel
theorem dX12_row_63 : decode cX12_row 63 = .ok (.bipush 40, 2) := by decide +kernel
theorem dX12_row_65 : decode cX12_row 65 = .ok (.iload_n 1, 1) := by decide +kernel
theorem dX12_row_66 : decode cX12_row 66 = .ok (.imul, 1) := by decide +kernel
theorem dX12_row_67 : decode cX12_row 67 = .ok (.iload 4, 2) := by decide +kernel
theorem dX12_row_69 : decode cX12_row 69 = .ok (.iadd, 1) := by decide +kernel
theorem dX12_row_70 : decode cX12_row 70 = .ok (.iconst 0, 1) := by decide +kernel
theorem dX12_row_71 : decode cX12_row 71 = .ok (.iastore, 1) := by decide +kernel
theorem dX12_row_72 : decode cX12_row 72 = .ok (.iinc 4 1, 3) := by decide +kernel
theorem dX12_row_75 : decode cX12_row 75 = .ok (.goto (-23), 3) := by decide +kernel
theorem dX12_row_78 : decode cX12_row 78 = .ok (.aload_n 0, 1) := by decide +kernel
theorem dX12_row_79 : decode cX12_row 79 = .ok (.iload_n 3, 1) := by decide +kernel
theorem dX12_row_80 : decode cX12_row 80 = .ok (.invokevirtual 66, 3) := by decide +kernel
theorem dX12_row_83 : decode cX12_row 83 = .ok (.ireturn, 1) := by decide +kernel
theorem dX12_set_0 : decode cX12_set 0 = .ok (.iload_n 1, 1) := by decide +kernel
theorem dX12_set_1 : decode cX12_set 1 = .ok (.invokestatic 57, 3) := by decide +kernel
theorem dX12_set_4 : decode cX12_set 4 = .ok (.ifCond .ne 6, 3) := by decide +kernel
theorem dX12_set_7 : decode cX12_set 7 = .ok (.ldc 61, 2) := by decide +kernel
theorem dX12_set_9 : decode cX12_set 9 = .ok (.ireturn, 1) := by decide +kernel
theorem dX12_set_10 : decode cX12_set 10 = .ok (.aload_n 0, 1) := by decide +kernel
theorem dX12_set_11 : decode cX12_set 11 = .ok (.iload_n 1, 1) := by decide +kernel
theorem dX12_set_12 : decode cX12_set 12 = .ok (.invokevirtual 69, 3) := by decide +kernel
theorem dX12_set_15 : decode cX12_set 15 = .ok (.ifCond .eq 9, 3) := by decide +kernel
theorem dX12_set_18 : decode cX12_set 18 = .ok (.aload_n 0, 1) := by decide +kernel
theorem dX12_set_19 : decode cX12_set 19 = .ok (.iconst 1, 1) := by decide +kernel
theorem dX12_set_20 : decode cX12_set 20 = .ok (.invokevirtual 62, 3) := by decide +kernel
theorem dX12_set_23 : decode cX12_set 23 = .ok (.ireturn, 1) := by decide +kernel
theorem dX12_set_24 : decode cX12_set 24 = .ok (.iload_n 2, 1) := by decide +kernel
theorem dX12_set_25 : decode cX12_set 25 = .ok (.iconst 0, 1) := by decide +kernel
theorem dX12_set_26 : decode cX12_set 26 = .ok (.aload_n 0, 1) := by decide +kernel
theorem dX12_set_27 : decode cX12_set 27 = .ok (.getfield 13, 3) := by decide +kernel
theorem dX12_set_30 : decode cX12_set 30 = .ok (.iload_n 1, 1) := by decide +kernel
theorem dX12_set_31 : decode cX12_set 31 = .ok (.iaload, 1) := by decide +kernel
theorem dX12_set_32 : decode cX12_set 32 = .ok (.iconst 1, 1) := by decide +kernel
theorem dX12_set_33 : decode cX12_set 33 = .ok (.isub, 1) := by decide +kernel
theorem dX12_set_34 : decode cX12_set 34 = .ok (.invokestatic 53, 3) := by decide +kernel
theorem dX12_set_37 : decode cX12_set 37 = .ok (.ifCond .ne 9, 3) := by decide +kernel
theorem dX12_set_40 : decode cX12_set 40 = .ok (.aload_n 0, 1) := by decide +kernel
theorem dX12_set_41 : decode cX12_set 41 = .ok (.iconst 2, 1) := by decide +kernel
theorem dX12_set_42 : decode cX12_set 42 = .ok (.invokevirtual 62, 3) := by decide +kernel
theorem dX12_set_45 : decode cX12_set 45 = .ok (.ireturn, 1) := by decide +kernel
theorem dX12_set_46 : decode cX12_set 46 = .ok (.aload_n 0, 1) := by decide +kernel
theorem dX12_set_47 : decode cX12_set 47 = .ok (.getfield 16, 3) := by decide +kernel
theorem dX12_set_50 : decode cX12_set 50 = .ok (.bipush 40, 2) := by decide +kernel
theorem dX12_set_52 : decode cX12_set 52 = .ok (.iload_n 1, 1) := by decide +kernel
theorem dX12_set_53 : decode cX12_set 53 = .ok (.imul, 1) := by decide +kernel
theorem dX12_set_54 : decode cX12_set 54 = .ok (.iload_n 2, 1) := by decide +kernel
theorem dX12_set_55 : decode cX12_set 55 = .ok (.iadd, 1) := by decide +kernel
theorem dX12_set_56 : decode cX12_set 56 = .ok (.aload_n 0, 1) := by decide +kernel
theorem dX12_set_57 : decode cX12_set 57 = .ok (.getfield 7, 3) := by decide +kernel
theorem dX12_set_60 : decode cX12_set 60 = .ok (.iload_n 1, 1) := by decide +kernel
theorem dX12_set_61 : decode cX12_set 61 = .ok (.iaload, 1) := by decide +kernel
theorem dX12_set_62 : decode cX12_set 62 = .ok (.iload_n 3, 1) := by decide +kernel
theorem dX12_set_63 : decode cX12_set 63 = .ok (.invokestatic 72, 3) := by decide +kernel
theorem dX12_set_66 : decode cX12_set 66 = .ok (.iastore, 1) := by decide +kernel
theorem dX12_set_67 : decode cX12_set 67 = .ok (.aload_n 0, 1) := by decide +kernel
theorem dX12_set_68 : decode cX12_set 68 = .ok (.aload_n 0, 1) := by decide +kernel
theorem dX12_set_69 : decode cX12_set 69 = .ok (.getfield 16, 3) := by decide +kernel
theorem dX12_set_72 : decode cX12_set 72 = .ok (.bipush 40, 2) := by decide +kernel
theorem dX12_set_74 : decode cX12_set 74 = .ok (.iload_n 1, 1) := by decide +kernel
theorem dX12_set_75 : decode cX12_set 75 = .ok (.imul, 1) := by decide +kernel
theorem dX12_set_76 : decode cX12_set 76 = .ok (.iload_n 2, 1) := by decide +kernel
theorem dX12_set_77 : decode cX12_set 77 = .ok (.iadd, 1) := by decide +kernel
theorem dX12_set_78 : decode cX12_set 78 = .ok (.iaload, 1) := by decide +kernel
theorem dX12_set_79 : decode cX12_set 79 = .ok (.invokevirtual 66, 3) := by decide +kernel
theorem dX12_set_82 : decode cX12_set 82 = .ok (.ireturn, 1) := by decide +kernel
theorem dX12_isPart_0 : decode cX12_isPart 0 = .ok (.iload_n 2, 1) := by decide +kernel
theorem dX12_isPart_1 : decode cX12_isPart 1 = .ok (.ifCond .lt 33, 3) := by decide +kernel
theorem dX12_isPart_4 : decode cX12_isPart 4 = .ok (.iload_n 3, 1) := by decide +kernel
theorem dX12_isPart_5 : decode cX12_isPart 5 = .ok (.ifCond .lt 29, 3) := by decide +kernel
theorem dX12_isPart_8 : decode cX12_isPart 8 = .ok (.iload_n 2, 1) := by decide +kernel
theorem dX12_isPart_9 : decode cX12_isPart 9 = .ok (.aload_n 0, 1) := by decide +kernel
theorem dX12_isPart_10 : decode cX12_isPart 10 = .ok (.getfield 13, 3) := by decide +kernel
theorem dX12_isPart_13 : decode cX12_isPart 13 = .ok (.iload_n 1, 1) := by decide +kernel
theorem dX12_isPart_14 : decode cX12_isPart 14 = .ok (.iaload, 1) := by decide +kernel
theorem dX12_isPart_15 : decode cX12_isPart 15 = .ok (.if_icmp .gt 19, 3) := by decide +kernel
theorem dX12_isPart_18 : decode cX12_isPart 18 = .ok (.iload_n 3, 1) := by decide +kernel
theorem dX12_isPart_19 : decode cX12_isPart 19 = .ok (.aload_n 0, 1) := by decide +kernel
theorem dX12_isPart_20 : decode cX12_isPart 20 = .ok (.getfield 13, 3) := by decide +kernel
theorem dX12_isPart_23 : decode cX12_isPart 23 = .ok (.iload_n 1, 1) := by decide +kernel
theorem dX12_isPart_24 : decode cX12_isPart 24 = .ok (.iaload, 1) := by decide +kernel
theorem dX12_isPart_25 : decode cX12_isPart 25 = .ok (.iload_n 2, 1) := by decide +kernel
theorem dX12_isPart_26 : decode cX12_isPart 26 = .ok (.isub, 1) := by decide +kernel
theorem dX12_isPart_27 : decode cX12_isPart 27 = .ok (.if_icmp .gt 7, 3) := by decide +kernel
theorem dX12_isPart_30 : decode cX12_isPart 30 = .ok (.iconst 1, 1) := by decide +kernel
theorem dX12_isPart_31 : decode cX12_isPart 31 = .ok (.goto 4, 3) := by decide +kernel
theorem dX12_isPart_34 : decode cX12_isPart 34 = .ok (.iconst 0, 1) := by decide +kernel
theorem dX12_isPart_35 : decode cX12_isPart 35 = .ok (.ireturn, 1) := by decide +kernel
theorem dX12_copy_0 : decode cX12_copy 0 = .ok (.iload_n 1, 1) := by decide +kernel
theorem dX12_copy_1 : decode cX12_copy 1 = .ok (.invokestatic 57, 3) := by decide +kernel
theorem dX12_copy_4 : decode cX12_copy 4 = .ok (.ifCond .eq 10, 3) := by decide +kernel
theorem dX12_copy_7 : decode cX12_copy 7 = .ok (.iload_n 3, 1) := by decide +kernel
theorem dX12_copy_8 : decode cX12_copy 8 = .ok (.invokestatic 57, 3) := by decide +kernel
theorem dX12_copy_11 : decode cX12_copy 11 = .ok (.ifCond .ne 6, 3) := by decide +kernel
theorem dX12_copy_14 : decode cX12_copy 14 = .ok (.ldc 61, 2) := by decide +kernel
theorem dX12_copy_16 : decode cX12_copy 16 = .ok (.ireturn, 1) := by decide +kernel
theorem dX12_copy_17 : decode cX12_copy 17 = .ok (.aload_n 0, 1) := by decide +kernel
theorem dX12_copy_18 : decode cX12_copy 18 = .ok (.iload_n 1, 1) := by decide +kernel
theorem dX12_copy_19 : decode cX12_copy 19 = .ok (.invokevirtual 69, 3) := by decide +kernel
theorem dX12_copy_22 : decode cX12_copy 22 = .ok (.ifCond .ne 11, 3) := by decide +kernel
theorem dX12_copy_25 : decode cX12_copy 25 = .ok (.aload_n 0, 1) := by decide +kernel
theorem dX12_copy_26 : decode cX12_copy 26 = .ok (.iload_n 3, 1) := by decide +kernel
theorem dX12_copy_27 : decode cX12_copy 27 = .ok (.invokevirtual 69, 3) := by decide +kernel
theorem dX12_copy_30 : decode cX12_copy 30 = .ok (.ifCond .eq 9, 3) := by decide +kernel
theorem dX12_copy_33 : decode cX12_copy 33 = .ok (.aload_n 0, 1) := by decide +kernel
theorem dX12_copy_34 : decode cX12_copy 34 = .ok (.iconst 1, 1) := by decide +kernel
theorem dX12_copy_35 : decode cX12_copy 35 = .ok (.invokevirtual 62, 3) := by decide +kernel
theorem dX12_copy_38 : decode cX12_copy 38 = .ok (.ireturn, 1) := by decide +kernel
theorem dX12_copy_39 : decode cX12_copy 39 = .ok (.aload_n 0, 1) := by decide +kernel
theorem dX12_copy_40 : decode cX12_copy 40 = .ok (.getfield 7, 3) := by decide +kernel
theorem dX12_copy_43 : decode cX12_copy 43 = .ok (.iload_n 1, 1) := by decide +kernel
theorem dX12_copy_44 : decode cX12_copy 44 = .ok (.iaload, 1) := by decide +kernel
theorem dX12_copy_45 : decode cX12_copy 45 = .ok (.aload_n 0, 1) := by decide +kernel
theorem dX12_copy_46 : decode cX12_copy 46 = .ok (.getfield 7, 3) := by decide +kernel
theorem dX12_copy_49 : decode cX12_copy 49 = .ok (.iload_n 3, 1) := by decide +kernel
theorem dX12_copy_50 : decode cX12_copy 50 = .ok (.iaload, 1) := by decide +kernel
theorem dX12_copy_51 : decode cX12_copy 51 = .ok (.if_icmp .eq 9, 3) := by decide +kernel
theorem dX12_copy_54 : decode cX12_copy 54 = .ok (.aload_n 0, 1) := by decide +kernel
theorem dX12_copy_55 : decode cX12_copy 55 = .ok (.iconst 5, 1) := by decide +kernel
theorem dX12_copy_56 : decode cX12_copy 56 = .ok (.invokevirtual 62, 3) := by decide +kernel
theorem dX12_copy_59 : decode cX12_copy 59 = .ok (.ireturn, 1) := by decide +kernel
theorem dX12_copy_60 : decode cX12_copy 60 = .ok (.aload_n 0, 1) := by decide +kernel
theorem dX12_copy_61 : decode cX12_copy 61 = .ok (.iload_n 1, 1) := by decide +kernel
theorem dX12_copy_62 : decode cX12_copy 62 = .ok (.iload_n 2, 1) := by decide +kernel
theorem dX12_copy_63 : decode cX12_copy 63 = .ok (.iload 5, 2) := by decide +kernel
theorem dX12_copy_65 : decode cX12_copy 65 = .ok (.invokevirtual 76, 3) := by decide +kernel
theorem dX12_copy_68 : decode cX12_copy 68 = .ok (.ifCond .eq 15, 3) := by decide +kernel
theorem dX12_copy_71 : decode cX12_copy 71 = .ok (.aload_n 0, 1) := by decide +kernel
theorem dX12_copy_72 : decode cX12_copy 72 = .ok (.iload_n 3, 1) := by decide +kernel
theorem dX12_copy_73 : decode cX12_copy 73 = .ok (.iload 4, 2) := by decide +kernel
theorem dX12_copy_75 : decode cX12_copy 75 = .ok (.iload 5, 2) := by decide +kernel
theorem dX12_copy_77 : decode cX12_copy 77 = .ok (.invokevirtual 76, 3) := by decide +kernel
theorem dX12_copy_80 : decode cX12_copy 80 = .ok (.ifCond .ne 9, 3) := by decide +kernel
theorem dX12_copy_83 : decode cX12_copy 83 = .ok (.aload_n 0, 1) := by decide +kernel
theorem dX12_copy_84 : decode cX12_copy 84 = .ok (.iconst 2, 1) := by decide +kernel
theorem dX12_copy_85 : decode cX12_copy 85 = .ok (.invokevirtual 62, 3) := by decide +kernel
theorem dX12_copy_88 : decode cX12_copy 88 = .ok (.ireturn, 1) := by decide +kernel
theorem dX12_copy_89 : decode cX12_copy 89 = .ok (.iconst 0, 1) := by decide +kernel
theorem dX12_copy_90 : decode cX12_copy 90 = .ok (.istore 6, 2) := by decide +kernel
theorem dX12_copy_92 : decode cX12_copy 92 = .ok (.iload 6, 2) := by decide +kernel
theorem dX12_copy_94 : decode cX12_copy 94 = .ok (.iload 5, 2) := by decide +kernel
theorem dX12_copy_96 : decode cX12_copy 96 = .ok (.if_icmp .ge 30, 3) := by decide +kernel
theorem dX12_copy_99 : decode cX12_copy 99 = .ok (.aload_n 0, 1) := by decide +kernel
theorem dX12_copy_100 : decode cX12_copy 100 = .ok (.getfield 19, 3) := by decide +kernel
theorem dX12_copy_103 : decode cX12_copy 103 = .ok (.iload 6, 2) := by decide +kernel
theorem dX12_copy_105 : decode cX12_copy 105 = .ok (.aload_n 0, 1) := by decide +kernel
theorem dX12_copy_106 : decode cX12_copy 106 = .ok (.getfield 16, 3) := by decide +kernel
theorem dX12_copy_109 : decode cX12_copy 109 = .ok (.bipush 40, 2) := by decide +kernel
theorem dX12_copy_111 : decode cX12_copy 111 = .ok (.iload_n 1, 1) := by decide +kernel
theorem dX12_copy_112 : decode cX12_copy 112 = .ok (.imul, 1) := by decide +kernel
theorem dX12_copy_113 : decode cX12_copy 113 = .ok (.iload_n 2, 1) := by decide +kernel
theorem dX12_copy_114 : decode cX12_copy 114 = .ok (.iadd, 1) := by decide +kernel
theorem dX12_copy_115 : decode cX12_copy 115 = .ok (.iload 6, 2) := by decide +kernel
theorem dX12_copy_117 : decode cX12_copy 117 = .ok (.iadd, 1) := by decide +kernel
theorem dX12_copy_118 : decode cX12_copy 118 = .ok (.iaload, 1) := by decide +kernel
theorem dX12_copy_119 : decode cX12_copy 119 = .ok (.iastore, 1) := by decide +kernel
theorem dX12_copy_120 : decode cX12_copy 120 = .ok (.iinc 6 1, 3) := by decide +kernel
theorem dX12_copy_123 : decode cX12_copy 123 = .ok (.goto (-31), 3) := by decide +kernel
theorem dX12_copy_126 : decode cX12_copy 126 = .ok (.iconst 0, 1) := by decide +kernel
theorem dX12_copy_127 : decode cX12_copy 127 = .ok (.istore 6, 2) := by decide +kernel
theorem dX12_copy_129 : decode cX12_copy 129 = .ok (.iload 6, 2) := by decide +kernel
theorem dX12_copy_131 : decode cX12_copy 131 = .ok (.iload 5, 2) := by decide +kernel
theorem dX12_copy_133 : decode cX12_copy 133 = .ok (.if_icmp .ge 31, 3) := by decide +kernel
theorem dX12_copy_136 : decode cX12_copy 136 = .ok (.aload_n 0, 1) := by decide +kernel
theorem dX12_copy_137 : decode cX12_copy 137 = .ok (.getfield 16, 3) := by decide +kernel
theorem dX12_copy_140 : decode cX12_copy 140 = .ok (.bipush 40, 2) := by decide +kernel
theorem dX12_copy_142 : decode cX12_copy 142 = .ok (.iload_n 3, 1) := by decide +kernel
theorem dX12_copy_143 : decode cX12_copy 143 = .ok (.imul, 1) := by decide +kernel
theorem dX12_copy_144 : decode cX12_copy 144 = .ok (.iload 4, 2) := by decide +kernel
theorem dX12_copy_146 : decode cX12_copy 146 = .ok (.iadd, 1) := by decide +kernel
theorem dX12_copy_147 : decode cX12_copy 147 = .ok (.iload 6, 2) := by decide +kernel
theorem dX12_copy_149 : decode cX12_copy 149 = .ok (.iadd, 1) := by decide +kernel
theorem dX12_copy_150 : decode cX12_copy 150 = .ok (.aload_n 0, 1) := by decide +kernel
theorem dX12_copy_151 : decode cX12_copy 151 = .ok (.getfield 19, 3) := by decide +kernel
theorem dX12_copy_154 : decode cX12_copy 154 = .ok (.iload 6, 2) := by decide +kernel
theorem dX12_copy_156 : decode cX12_copy 156 = .ok (.iaload, 1) := by decide +kernel
theorem dX12_copy_157 : decode cX12_copy 157 = .ok (.iastore, 1) := by decide +kernel
theorem dX12_copy_158 : decode cX12_copy 158 = .ok (.iinc 6 1, 3) := by decide +kernel
theorem dX12_copy_161 : decode cX12_copy 161 = .ok (.goto (-32), 3) := by decide +kernel
theorem dX12_copy_164 : decode cX12_copy 164 = .ok (.aload_n 0, 1) := by decide +kernel
theorem dX12_copy_165 : decode cX12_copy 165 = .ok (.iload 5, 2) := by decide +kernel
theorem dX12_copy_167 : decode cX12_copy 167 = .ok (.invokevirtual 66, 3) := by decide +kernel
theorem dX12_copy_170 : decode cX12_copy 170 = .ok (.ireturn, 1) := by decide +kernel
theorem dX12_drop_0 : decode cX12_drop 0 = .ok (.iload_n 1, 1) := by decide +kernel
theorem dX12_drop_1 : decode cX12_drop 1 = .ok (.invokestatic 57, 3) := by decide +kernel
theorem dX12_drop_4 : decode cX12_drop 4 = .ok (.ifCond .ne 6, 3) := by decide +kernel
theorem dX12_drop_7 : decode cX12_drop 7 = .ok (.ldc 61, 2) := by decide +kernel
theorem dX12_drop_9 : decode cX12_drop 9 = .ok (.ireturn, 1) := by decide +kernel
theorem dX12_drop_10 : decode cX12_drop 10 = .ok (.aload_n 0, 1) := by decide +kernel
theorem dX12_drop_11 : decode cX12_drop 11 = .ok (.iload_n 1, 1) := by decide +kernel
theorem dX12_drop_12 : decode cX12_drop 12 = .ok (.invokevirtual 69, 3) := by decide +kernel
theorem dX12_drop_15 : decode cX12_drop 15 = .ok (.ifCond .eq 9, 3) := by decide +kernel
theorem dX12_drop_18 : decode cX12_drop 18 = .ok (.aload_n 0, 1) := by decide +kernel
theorem dX12_drop_19 : decode cX12_drop 19 = .ok (.iconst 1, 1) := by decide +kernel
theorem dX12_drop_20 : decode cX12_drop 20 = .ok (.invokevirtual 62, 3) := by decide +kernel
theorem dX12_drop_23 : decode cX12_drop 23 = .ok (.ireturn, 1) := by decide +kernel
theorem dX12_drop_24 : decode cX12_drop 24 = .ok (.aload_n 0, 1) := by decide +kernel
theorem dX12_drop_25 : decode cX12_drop 25 = .ok (.getfield 7, 3) := by decide +kernel
theorem dX12_drop_28 : decode cX12_drop 28 = .ok (.iload_n 1, 1) := by decide +kernel
theorem dX12_drop_29 : decode cX12_drop 29 = .ok (.ldc 47, 2) := by decide +kernel
theorem dX12_drop_31 : decode cX12_drop 31 = .ok (.iastore, 1) := by decide +kernel
theorem dX12_drop_32 : decode cX12_drop 32 = .ok (.aload_n 0, 1) := by decide +kernel
theorem dX12_drop_33 : decode cX12_drop 33 = .ok (.aload_n 0, 1) := by decide +kernel
theorem dX12_drop_34 : decode cX12_drop 34 = .ok (.getfield 13, 3) := by decide +kernel
theorem dX12_drop_37 : decode cX12_drop 37 = .ok (.iload_n 1, 1) := by decide +kernel
theorem dX12_drop_38 : decode cX12_drop 38 = .ok (.iaload, 1) := by decide +kernel
theorem dX12_drop_39 : decode cX12_drop 39 = .ok (.invokevirtual 66, 3) := by decide +kernel
theorem dX12_drop_42 : decode cX12_drop 42 = .ok (.ireturn, 1) := by decide +kernel
theorem dX12_feed_0 : decode cX12_feed 0 = .ok (.iload_n 1, 1) := by decide +kernel
theorem dX12_feed_1 : decode cX12_feed 1 = .ok (.iconst 0, 1) := by decide +kernel
theorem dX12_feed_2 : decode cX12_feed 2 = .ok (.sipush 255, 3) := by decide +kernel
theorem dX12_feed_5 : decode cX12_feed 5 = .ok (.invokestatic 53, 3) := by decide +kernel
theorem dX12_feed_8 : decode cX12_feed 8 = .ok (.ifCond .ne 6, 3) := by decide +kernel
theorem dX12_feed_11 : decode cX12_feed 11 = .ok (.ldc 61, 2) := by decide +kernel
theorem dX12_feed_13 : decode cX12_feed 13 = .ok (.ireturn, 1) := by decide +kernel
theorem dX12_feed_14 : decode cX12_feed 14 = .ok (.aload_n 0, 1) := by decide +kernel
theorem dX12_feed_15 : decode cX12_feed 15 = .ok (.getfield 79, 3) := by decide +kernel
theorem dX12_feed_18 : decode cX12_feed 18 = .ok (.bipush 100, 2) := by decide +kernel
theorem dX12_feed_20 : decode cX12_feed 20 = .ok (.if_icmp .ne 6, 3) := by decide +kernel
theorem dX12_feed_23 : decode cX12_feed 23 = .ok (.ldc 82, 2) := by decide +kernel
theorem dX12_feed_25 : decode cX12_feed 25 = .ok (.ireturn, 1) := by decide +kernel
theorem dX12_feed_26 : decode cX12_feed 26 = .ok (.aload_n 0, 1) := by decide +kernel
theorem dX12_feed_27 : decode cX12_feed 27 = .ok (.getfield 22, 3) := by decide +kernel
theorem dX12_feed_30 : decode cX12_feed 30 = .ok (.aload_n 0, 1) := by decide +kernel
theorem dX12_feed_31 : decode cX12_feed 31 = .ok (.getfield 79, 3) := by decide +kernel
theorem dX12_feed_34 : decode cX12_feed 34 = .ok (.iload_n 1, 1) := by decide +kernel
theorem dX12_feed_35 : decode cX12_feed 35 = .ok (.iastore, 1) := by decide +kernel
theorem dX12_feed_36 : decode cX12_feed 36 = .ok (.aload_n 0, 1) := by decide +kernel
theorem dX12_feed_37 : decode cX12_feed 37 = .ok (.dup, 1) := by decide +kernel
theorem dX12_feed_38 : decode cX12_feed 38 = .ok (.getfield 79, 3) := by decide +kernel
theorem dX12_feed_41 : decode cX12_feed 41 = .ok (.iconst 1, 1) := by decide +kernel
theorem dX12_feed_42 : decode cX12_feed 42 = .ok (.iadd, 1) := by decide +kernel
theorem dX12_feed_43 : decode cX12_feed 43 = .ok (.putfield 79, 3) := by decide +kernel
theorem dX12_feed_46 : decode cX12_feed 46 = .ok (.aload_n 0, 1) := by decide +kernel
theorem dX12_feed_47 : decode cX12_feed 47 = .ok (.getfield 79, 3) := by decide +kernel
theorem dX12_feed_50 : decode cX12_feed 50 = .ok (.ireturn, 1) := by decide +kernel
theorem dX12_byteAt_0 : decode cX12_byteAt 0 = .ok (.iload_n 1, 1) := by decide +kernel
theorem dX12_byteAt_1 : decode cX12_byteAt 1 = .ok (.aload_n 0, 1) := by decide +kernel
theorem dX12_byteAt_2 : decode cX12_byteAt 2 = .ok (.getfield 79, 3) := by decide +kernel
theorem dX12_byteAt_5 : decode cX12_byteAt 5 = .ok (.if_icmp .ge 12, 3) := by decide +kernel
theorem dX12_byteAt_8 : decode cX12_byteAt 8 = .ok (.aload_n 0, 1) := by decide +kernel
theorem dX12_byteAt_9 : decode cX12_byteAt 9 = .ok (.getfield 22, 3) := by decide +kernel
theorem dX12_byteAt_12 : decode cX12_byteAt 12 = .ok (.iload_n 1, 1) := by decide +kernel
theorem dX12_byteAt_13 : decode cX12_byteAt 13 = .ok (.iaload, 1) := by decide +kernel
theorem dX12_byteAt_14 : decode cX12_byteAt 14 = .ok (.goto 4, 3) := by decide +kernel
theorem dX12_byteAt_17 : decode cX12_byteAt 17 = .ok (.iconst (-1), 1) := by decide +kernel
theorem dX12_byteAt_18 : decode cX12_byteAt 18 = .ok (.ireturn, 1) := by decide +kernel
theorem dX12_advances_0 : decode cX12_advances 0 = .ok (.aload_n 0, 1) := by decide +kernel
theorem dX12_advances_1 : decode cX12_advances 1 = .ok (.aload_n 0, 1) := by decide +kernel
theorem dX12_advances_2 : decode cX12_advances 2 = .ok (.getfield 83, 3) := by decide +kernel
theorem dX12_advances_5 : decode cX12_advances 5 = .ok (.putfield 86, 3) := by decide +kernel
theorem dX12_advances_8 : decode cX12_advances 8 = .ok (.aload_n 0, 1) := by decide +kernel
theorem dX12_advances_9 : decode cX12_advances 9 = .ok (.aload_n 0, 1) := by decide +kernel
theorem dX12_advances_10 : decode cX12_advances 10 = .ok (.getfield 83, 3) := by decide +kernel
theorem dX12_advances_13 : decode cX12_advances 13 = .ok (.invokevirtual 89, 3) := by decide +kernel
theorem dX12_advances_16 : decode cX12_advances 16 = .ok (.istore_n 1, 1) := by decide +kernel
theorem dX12_advances_17 : decode cX12_advances 17 = .ok (.aload_n 0, 1) := by decide +kernel
theorem dX12_advances_18 : decode cX12_advances 18 = .ok (.iload_n 1, 1) := by decide +kernel
theorem dX12_advances_19 : decode cX12_advances 19 = .ok (.putfield 92, 3) := by decide +kernel
theorem dX12_advances_22 : decode cX12_advances 22 = .ok (.iload_n 1, 1) := by decide +kernel
theorem dX12_advances_23 : decode cX12_advances 23 = .ok (.bipush 48, 2) := by decide +kernel
theorem dX12_advances_25 : decode cX12_advances 25 = .ok (.bipush 57, 2) := by decide +kernel
theorem dX12_advances_27 : decode cX12_advances 27 = .ok (.invokestatic 53, 3) := by decide +kernel
theorem dX12_advances_30 : decode cX12_advances 30 = .ok (.ifCond .eq 105, 3) := by decide +kernel
theorem dX12_advances_33 : decode cX12_advances 33 = .ok (.aload_n 0, 1) := by decide +kernel
theorem dX12_advances_34 : decode cX12_advances 34 = .ok (.iconst 0, 1) := by decide +kernel
theorem dX12_advances_35 : decode cX12_advances 35 = .ok (.putfield 92, 3) := by decide +kernel
theorem dX12_advances_38 : decode cX12_advances 38 = .ok (.aload_n 0, 1) := by decide +kernel
theorem dX12_advances_39 : decode cX12_advances 39 = .ok (.aload_n 0, 1) := by decide +kernel
theorem dX12_advances_40 : decode cX12_advances 40 = .ok (.getfield 83, 3) := by decide +kernel
theorem dX12_advances_43 : decode cX12_advances 43 = .ok (.invokevirtual 89, 3) := by decide +kernel
theorem dX12_advances_46 : decode cX12_advances 46 = .ok (.bipush 48, 2) := by decide +kernel
theorem dX12_advances_48 : decode cX12_advances 48 = .ok (.bipush 57, 2) := by decide +kernel
theorem dX12_advances_50 : decode cX12_advances 50 = .ok (.invokestatic 53, 3) := by decide +kernel
theorem dX12_advances_53 : decode cX12_advances 53 = .ok (.ifCond .eq 59, 3) := by decide +kernel
theorem dX12_advances_56 : decode cX12_advances 56 = .ok (.aload_n 0, 1) := by decide +kernel
theorem dX12_advances_57 : decode cX12_advances 57 = .ok (.aload_n 0, 1) := by decide +kernel
theorem dX12_advances_58 : decode cX12_advances 58 = .ok (.getfield 83, 3) := by decide +kernel
theorem dX12_advances_61 : decode cX12_advances 61 = .ok (.aload_n 0, 1) := by decide +kernel
theorem dX12_advances_62 : decode cX12_advances 62 = .ok (.getfield 86, 3) := by decide +kernel
theorem dX12_advances_65 : decode cX12_advances 65 = .ok (.isub, 1) := by decide +kernel
theorem dX12_advances_66 : decode cX12_advances 66 = .ok (.iconst 2, 1) := by decide +kernel
theorem dX12_advances_67 : decode cX12_advances 67 = .ok (.if_icmp .ge 25, 3) := by decide +kernel
theorem dX12_advances_70 : decode cX12_advances 70 = .ok (.bipush 10, 2) := by decide +kernel
theorem dX12_advances_72 : decode cX12_advances 72 = .ok (.aload_n 0, 1) := by decide +kernel
theorem dX12_advances_73 : decode cX12_advances 73 = .ok (.getfield 92, 3) := by decide +kernel
theorem dX12_advances_76 : decode cX12_advances 76 = .ok (.imul, 1) := by decide +kernel
theorem dX12_advances_77 : decode cX12_advances 77 = .ok (.aload_n 0, 1) := by decide +kernel
theorem dX12_advances_78 : decode cX12_advances 78 = .ok (.aload_n 0, 1) := by decide +kernel
theorem dX12_advances_79 : decode cX12_advances 79 = .ok (.getfield 83, 3) := by decide +kernel
theorem dX12_advances_82 : decode cX12_advances 82 = .ok (.invokevirtual 89, 3) := by decide +kernel
theorem dX12_advances_85 : decode cX12_advances 85 = .ok (.iadd, 1) := by decide +kernel
theorem dX12_advances_86 : decode cX12_advances 86 = .ok (.bipush 48, 2) := by decide +kernel
theorem dX12_advances_88 : decode cX12_advances 88 = .ok (.isub, 1) := by decide +kernel
theorem dX12_advances_89 : decode cX12_advances 89 = .ok (.goto 7, 3) := by decide +kernel
theorem dX12_advances_92 : decode cX12_advances 92 = .ok (.aload_n 0, 1) := by decide +kernel
theorem dX12_advances_93 : decode cX12_advances 93 = .ok (.getfield 92, 3) := by decide +kernel
theorem dX12_advances_96 : decode cX12_advances 96 = .ok (.putfield 92, 3) := by decide +kernel
theorem dX12_advances_99 : decode cX12_advances 99 = .ok (.aload_n 0, 1) := by decide +kernel
theorem dX12_advances_100 : decode cX12_advances 100 = .ok (.dup, 1) := by decide +kernel
theorem dX12_advances_101 : decode cX12_advances 101 = .ok (.getfield 83, 3) := by decide +kernel
theorem dX12_advances_104 : decode cX12_advances 104 = .ok (.iconst 1, 1) := by decide +kernel
theorem dX12_advances_105 : decode cX12_advances 105 = .ok (.iadd, 1) := by decide +kernel
theorem dX12_advances_106 : decode cX12_advances 106 = .ok (.putfield 83, 3) := by decide +kernel
theorem dX12_advances_109 : decode cX12_advances 109 = .ok (.goto (-71), 3) := by decide +kernel
theorem dX12_advances_112 : decode cX12_advances 112 = .ok (.aload_n 0, 1) := by decide +kernel
theorem dX12_advances_113 : decode cX12_advances 113 = .ok (.aload_n 0, 1) := by decide +kernel
theorem dX12_advances_114 : decode cX12_advances 114 = .ok (.getfield 83, 3) := by decide +kernel
theorem dX12_advances_117 : decode cX12_advances 117 = .ok (.aload_n 0, 1) := by decide +kernel
theorem dX12_advances_118 : decode cX12_advances 118 = .ok (.getfield 86, 3) := by decide +kernel
theorem dX12_advances_121 : decode cX12_advances 121 = .ok (.isub, 1) := by decide +kernel
theorem dX12_advances_122 : decode cX12_advances 122 = .ok (.iconst 3, 1) := by decide +kernel
theorem dX12_advances_123 : decode cX12_advances 123 = .ok (.if_icmp .ge 7, 3) := by decide +kernel
theorem dX12_advances_126 : decode cX12_advances 126 = .ok (.iconst 2, 1) := by decide +kernel
theorem dX12_advances_127 : decode cX12_advances 127 = .ok (.goto 4, 3) := by decide +kernel
theorem dX12_advances_130 : decode cX12_advances 130 = .ok (.iconst 5, 1) := by decide +kernel
theorem dX12_advances_131 : decode cX12_advances 131 = .ok (.putfield 95, 3) := by decide +kernel
theorem dX12_advances_134 : decode cX12_advances 134 = .ok (.return_, 1) := by decide +kernel
theorem dX12_advances_135 : decode cX12_advances 135 = .ok (.aload_n 0, 1) := by decide +kernel
theorem dX12_advances_136 : decode cX12_advances 136 = .ok (.iload_n 1, 1) := by decide +kernel
theorem dX12_advances_137 : decode cX12_advances 137 = .ok (.ifCond .ge 7, 3) := by decide +kernel
theorem dX12_advances_140 : decode cX12_advances 140 = .ok (.iconst 0, 1) := by decide +kernel
theorem dX12_advances_141 : decode cX12_advances 141 = .ok (.goto 39, 3) := by decide +kernel
theorem dX12_advances_144 : decode cX12_advances 144 = .ok (.iload_n 1, 1) := by decide +kernel
theorem dX12_advances_145 : decode cX12_advances 145 = .ok (.bipush 97, 2) := by decide +kernel
theorem dX12_advances_147 : decode cX12_advances 147 = .ok (.bipush 122, 2) := by decide +kernel
theorem dX12_advances_149 : decode cX12_advances 149 = .ok (.invokestatic 53, 3) := by decide +kernel
theorem dX12_advances_152 : decode cX12_advances 152 = .ok (.ifCond .eq 7, 3) := by decide +kernel
theorem dX12_advances_155 : decode cX12_advances 155 = .ok (.iconst 1, 1) := by decide +kernel
theorem dX12_advances_156 : decode cX12_advances 156 = .ok (.goto 24, 3) := by decide +kernel
theorem dX12_advances_159 : decode cX12_advances 159 = .ok (.iload_n 1, 1) := by decide +kernel
theorem dX12_advances_160 : decode cX12_advances 160 = .ok (.bipush 44, 2) := by decide +kernel
theorem dX12_advances_162 : decode cX12_advances 162 = .ok (.if_icmp .ne 7, 3) := by decide +kernel
theorem dX12_advances_165 : decode cX12_advances 165 = .ok (.iconst 3, 1) := by decide +kernel
theorem dX12_advances_166 : decode cX12_advances 166 = .ok (.goto 14, 3) := by decide +kernel
theorem dX12_advances_169 : decode cX12_advances 169 = .ok (.iload_n 1, 1) := by decide +kernel
theorem dX12_advances_170 : decode cX12_advances 170 = .ok (.bipush 59, 2) := by decide +kernel
theorem dX12_advances_172 : decode cX12_advances 172 = .ok (.if_icmp .ne 7, 3) := by decide +kernel
theorem dX12_advances_175 : decode cX12_advances 175 = .ok (.iconst 4, 1) := by decide +kernel
theorem dX12_advances_176 : decode cX12_advances 176 = .ok (.goto 4, 3) := by decide +kernel
theorem dX12_advances_179 : decode cX12_advances 179 = .ok (.iconst 5, 1) := by decide +kernel
theorem dX12_advances_180 : decode cX12_advances 180 = .ok (.putfield 95, 3) := by decide +kernel
theorem dX12_advances_183 : decode cX12_advances 183 = .ok (.aload_n 0, 1) := by decide +kernel
theorem dX12_advances_184 : decode cX12_advances 184 = .ok (.dup, 1) := by decide +kernel
theorem dX12_advances_185 : decode cX12_advances 185 = .ok (.getfield 83, 3) := by decide +kernel
theorem dX12_advances_188 : decode cX12_advances 188 = .ok (.aload_n 0, 1) := by decide +kernel
theorem dX12_advances_189 : decode cX12_advances 189 = .ok (.getfield 95, 3) := by decide +kernel
theorem dX12_advances_192 : decode cX12_advances 192 = .ok (.ifCond .ne 7, 3) := by decide +kernel
theorem dX12_advances_195 : decode cX12_advances 195 = .ok (.iconst 0, 1) := by decide +kernel
theorem dX12_advances_196 : decode cX12_advances 196 = .ok (.goto 4, 3) := by decide +kernel
theorem dX12_advances_199 : decode cX12_advances 199 = .ok (.iconst 1, 1) := by decide +kernel
theorem dX12_advances_200 : decode cX12_advances 200 = .ok (.iadd, 1) := by decide +kernel
theorem dX12_advances_201 : decode cX12_advances 201 = .ok (.putfield 83, 3) := by decide +kernel
theorem dX12_advances_204 : decode cX12_advances 204 = .ok (.return_, 1) := by decide +kernel
theorem dX12_isWell_0 : decode cX12_isWell 0 = .ok (.aload_n 0, 1) := by decide +kernel
theorem dX12_isWell_1 : decode cX12_isWell 1 = .ok (.getfield 98, 3) := by decide +kernel
theorem dX12_isWell_4 : decode cX12_isWell 4 = .ok (.ifCond .ge 7, 3) := by decide +kernel
theorem dX12_isWell_7 : decode cX12_isWell 7 = .ok (.iconst 1, 1) := by decide +kernel
theorem dX12_isWell_8 : decode cX12_isWell 8 = .ok (.goto 4, 3) := by decide +kernel
theorem dX12_isWell_11 : decode cX12_isWell 11 = .ok (.iconst 0, 1) := by decide +kernel
theorem dX12_isWell_12 : decode cX12_isWell 12 = .ok (.ireturn, 1) := by decide +kernel
theorem dX12_takes_0 : decode cX12_takes 0 = .ok (.aload_n 0, 1) := by decide +kernel
theorem dX12_takes_1 : decode cX12_takes 1 = .ok (.invokevirtual 101, 3) := by decide +kernel
theorem dX12_takes_4 : decode cX12_takes 4 = .ok (.ifCond .ne 5, 3) := by decide +kernel
theorem dX12_takes_7 : decode cX12_takes 7 = .ok (.iconst 0, 1) := by decide +kernel
theorem dX12_takes_8 : decode cX12_takes 8 = .ok (.ireturn, 1) := by decide +kernel
theorem dX12_takes_9 : decode cX12_takes 9 = .ok (.iload_n 1, 1) := by decide +kernel
theorem dX12_takes_10 : decode cX12_takes 10 = .ok (.ifCond .ne 18, 3) := by decide +kernel
theorem dX12_takes_13 : decode cX12_takes 13 = .ok (.aload_n 0, 1) := by decide +kernel
theorem dX12_takes_14 : decode cX12_takes 14 = .ok (.aload_n 0, 1) := by decide +kernel
theorem dX12_takes_15 : decode cX12_takes 15 = .ok (.getfield 86, 3) := by decide +kernel
theorem dX12_takes_18 : decode cX12_takes 18 = .ok (.putfield 98, 3) := by decide +kernel
theorem dX12_takes_21 : decode cX12_takes 21 = .ok (.aload_n 0, 1) := by decide +kernel
theorem dX12_takes_22 : decode cX12_takes 22 = .ok (.iload_n 2, 1) := by decide +kernel
theorem dX12_takes_23 : decode cX12_takes 23 = .ok (.putfield 105, 3) := by decide +kernel
theorem dX12_takes_26 : decode cX12_takes 26 = .ok (.iconst 0, 1) := by decide +kernel
theorem dX12_takes_27 : decode cX12_takes 27 = .ok (.ireturn, 1) := by decide +kernel
theorem dX12_takes_28 : decode cX12_takes 28 = .ok (.aload_n 0, 1) := by decide +kernel
theorem dX12_takes_29 : decode cX12_takes 29 = .ok (.getfield 92, 3) := by decide +kernel
theorem dX12_takes_32 : decode cX12_takes 32 = .ok (.istore_n 3, 1) := by decide +kernel
theorem dX12_takes_33 : decode cX12_takes 33 = .ok (.aload_n 0, 1) := by decide +kernel
theorem dX12_takes_34 : decode cX12_takes 34 = .ok (.invokevirtual 108, 3) := by decide +kernel
theorem dX12_takes_37 : decode cX12_takes 37 = .ok (.iload_n 3, 1) := by decide +kernel
theorem dX12_takes_38 : decode cX12_takes 38 = .ok (.ireturn, 1) := by decide +kernel
theorem dX12_figure_0 : decode cX12_figure 0 = .ok (.aload_n 0, 1) := by decide +kernel
theorem dX12_figure_1 : decode cX12_figure 1 = .ok (.invokevirtual 101, 3) := by decide +kernel
theorem dX12_figure_4 : decode cX12_figure 4 = .ok (.ifCond .eq 18, 3) := by decide +kernel
theorem dX12_figure_7 : decode cX12_figure 7 = .ok (.aload_n 0, 1) := by decide +kernel
theorem dX12_figure_8 : decode cX12_figure 8 = .ok (.getfield 95, 3) := by decide +kernel
theorem dX12_figure_11 : decode cX12_figure 11 = .ok (.iconst 2, 1) := by decide +kernel
theorem dX12_figure_12 : decode cX12_figure 12 = .ok (.if_icmp .eq 10, 3) := by decide +kernel
theorem dX12_figure_15 : decode cX12_figure 15 = .ok (.aload_n 0, 1) := by decide +kernel
theorem dX12_figure_16 : decode cX12_figure 16 = .ok (.iconst 0, 1) := by decide +kernel
theorem dX12_figure_17 : decode cX12_figure 17 = .ok (.iconst 1, 1) := by decide +kernel
theorem dX12_figure_18 : decode cX12_figure 18 = .ok (.invokevirtual 111, 3) := by decide +kernel
theorem dX12_figure_21 : decode cX12_figure 21 = .ok (.ireturn, 1) := by decide +kernel
theorem dX12_figure_22 : decode cX12_figure 22 = .ok (.aload_n 0, 1) := by decide +kernel
theorem dX12_figure_23 : decode cX12_figure 23 = .ok (.aload_n 0, 1) := by decide +kernel
theorem dX12_figure_24 : decode cX12_figure 24 = .ok (.getfield 92, 3) := by decide +kernel
theorem dX12_figure_27 : decode cX12_figure 27 = .ok (.iload_n 1, 1) := by decide +kernel
theorem dX12_figure_28 : decode cX12_figure 28 = .ok (.iload_n 2, 1) := by decide +kernel
theorem dX12_figure_29 : decode cX12_figure 29 = .ok (.invokestatic 53, 3) := by decide +kernel
theorem dX12_figure_32 : decode cX12_figure 32 = .ok (.iconst 2, 1) := by decide +kernel
theorem dX12_figure_33 : decode cX12_figure 33 = .ok (.invokevirtual 111, 3) := by decide +kernel
theorem dX12_figure_36 : decode cX12_figure 36 = .ok (.ireturn, 1) := by decide +kernel
theorem dX12_kindOf_0 : decode cX12_kindOf 0 = .ok (.iload_n 0, 1) := by decide +kernel
theorem dX12_kindOf_1 : decode cX12_kindOf 1 = .ok (.bipush 112, 2) := by decide +kernel
theorem dX12_kindOf_3 : decode cX12_kindOf 3 = .ok (.if_icmp .ne 7, 3) := by decide +kernel
theorem dX12_kindOf_6 : decode cX12_kindOf 6 = .ok (.iconst 1, 1) := by decide +kernel
theorem dX12_kindOf_7 : decode cX12_kindOf 7 = .ok (.goto 44, 3) := by decide +kernel
theorem dX12_kindOf_10 : decode cX12_kindOf 10 = .ok (.iload_n 0, 1) := by decide +kernel
theorem dX12_kindOf_11 : decode cX12_kindOf 11 = .ok (.bipush 99, 2) := by decide +kernel
theorem dX12_kindOf_13 : decode cX12_kindOf 13 = .ok (.if_icmp .ne 7, 3) := by decide +kernel
theorem dX12_kindOf_16 : decode cX12_kindOf 16 = .ok (.iconst 2, 1) := by decide +kernel
theorem dX12_kindOf_17 : decode cX12_kindOf 17 = .ok (.goto 34, 3) := by decide +kernel
theorem dX12_kindOf_20 : decode cX12_kindOf 20 = .ok (.iload_n 0, 1) := by decide +kernel
theorem dX12_kindOf_21 : decode cX12_kindOf 21 = .ok (.bipush 100, 2) := by decide +kernel
theorem dX12_kindOf_23 : decode cX12_kindOf 23 = .ok (.if_icmp .ne 7, 3) := by decide +kernel
theorem dX12_kindOf_26 : decode cX12_kindOf 26 = .ok (.iconst 3, 1) := by decide +kernel
theorem dX12_kindOf_27 : decode cX12_kindOf 27 = .ok (.goto 24, 3) := by decide +kernel
theorem dX12_kindOf_30 : decode cX12_kindOf 30 = .ok (.iload_n 0, 1) := by decide +kernel
theorem dX12_kindOf_31 : decode cX12_kindOf 31 = .ok (.bipush 107, 2) := by decide +kernel
theorem dX12_kindOf_33 : decode cX12_kindOf 33 = .ok (.if_icmp .ne 7, 3) := by decide +kernel
theorem dX12_kindOf_36 : decode cX12_kindOf 36 = .ok (.iconst 4, 1) := by decide +kernel
theorem dX12_kindOf_37 : decode cX12_kindOf 37 = .ok (.goto 14, 3) := by decide +kernel
theorem dX12_kindOf_40 : decode cX12_kindOf 40 = .ok (.iload_n 0, 1) := by decide +kernel
theorem dX12_kindOf_41 : decode cX12_kindOf 41 = .ok (.bipush 115, 2) := by decide +kernel
theorem dX12_kindOf_43 : decode cX12_kindOf 43 = .ok (.if_icmp .ne 7, 3) := by decide +kernel
theorem dX12_kindOf_46 : decode cX12_kindOf 46 = .ok (.iconst 5, 1) := by decide +kernel
theorem dX12_kindOf_47 : decode cX12_kindOf 47 = .ok (.goto 4, 3) := by decide +kernel
theorem dX12_kindOf_50 : decode cX12_kindOf 50 = .ok (.iconst 0, 1) := by decide +kernel
theorem dX12_kindOf_51 : decode cX12_kindOf 51 = .ok (.ireturn, 1) := by decide +kernel
theorem dX12_next_0 : decode cX12_next 0 = .ok (.aload_n 0, 1) := by decide +kernel
theorem dX12_next_1 : decode cX12_next 1 = .ok (.aload_n 0, 1) := by decide +kernel
theorem dX12_next_2 : decode cX12_next 2 = .ok (.getfield 95, 3) := by decide +kernel
theorem dX12_next_5 : decode cX12_next 5 = .ok (.iconst 3, 1) := by decide +kernel
theorem dX12_next_6 : decode cX12_next 6 = .ok (.if_icmp .ne 7, 3) := by decide +kernel
theorem dX12_next_9 : decode cX12_next 9 = .ok (.iconst 1, 1) := by decide +kernel
theorem dX12_next_10 : decode cX12_next 10 = .ok (.goto 4, 3) := by decide +kernel
theorem dX12_next_13 : decode cX12_next 13 = .ok (.iconst 0, 1) := by decide +kernel
theorem dX12_next_14 : decode cX12_next 14 = .ok (.iconst 1, 1) := by decide +kernel
theorem dX12_next_15 : decode cX12_next 15 = .ok (.invokevirtual 111, 3) := by decide +kernel
theorem dX12_next_18 : decode cX12_next 18 = .ok (.pop, 1) := by decide +kernel
theorem dX12_next_19 : decode cX12_next 19 = .ok (.aload_n 0, 1) := by decide +kernel
theorem dX12_next_20 : decode cX12_next 20 = .ok (.iload_n 1, 1) := by decide +kernel
theorem dX12_next_21 : decode cX12_next 21 = .ok (.iload_n 2, 1) := by decide +kernel
theorem dX12_next_22 : decode cX12_next 22 = .ok (.invokevirtual 115, 3) := by decide +kernel
theorem dX12_next_25 : decode cX12_next 25 = .ok (.ireturn, 1) := by decide +kernel
theorem dX12_readsPerson_0 : decode cX12_readsPerson 0 = .ok (.aload_n 0, 1) := by decide +kernel
theorem dX12_readsPerson_1 : decode cX12_readsPerson 1 = .ok (.getfield 92, 3) := by decide +kernel
theorem dX12_readsPerson_4 : decode cX12_readsPerson 4 = .ok (.invokestatic 118, 3) := by decide +kernel
theorem dX12_readsPerson_7 : decode cX12_readsPerson 7 = .ok (.istore_n 1, 1) := by decide +kernel
theorem dX12_readsPerson_8 : decode cX12_readsPerson 8 = .ok (.aload_n 0, 1) := by decide +kernel
theorem dX12_readsPerson_9 : decode cX12_readsPerson 9 = .ok (.aload_n 0, 1) := by decide +kernel
theorem dX12_readsPerson_10 : decode cX12_readsPerson 10 = .ok (.getfield 28, 3) := by decide +kernel
theorem dX12_readsPerson_13 : decode cX12_readsPerson 13 = .ok (.iconst 3, 1) := by decide +kernel
theorem dX12_readsPerson_14 : decode cX12_readsPerson 14 = .ok (.iaload, 1) := by decide +kernel
theorem dX12_readsPerson_15 : decode cX12_readsPerson 15 = .ok (.bipush 6, 2) := by decide +kernel
theorem dX12_readsPerson_17 : decode cX12_readsPerson 17 = .ok (.if_icmp .ge 7, 3) := by decide +kernel
theorem dX12_readsPerson_20 : decode cX12_readsPerson 20 = .ok (.iconst 1, 1) := by decide +kernel
theorem dX12_readsPerson_21 : decode cX12_readsPerson 21 = .ok (.goto 4, 3) := by decide +kernel
theorem dX12_readsPerson_24 : decode cX12_readsPerson 24 = .ok (.iconst 0, 1) := by decide +kernel
theorem dX12_readsPerson_25 : decode cX12_readsPerson 25 = .ok (.iconst 3, 1) := by decide +kernel
theorem dX12_readsPerson_26 : decode cX12_readsPerson 26 = .ok (.invokevirtual 111, 3) := by decide +kernel
theorem dX12_readsPerson_29 : decode cX12_readsPerson 29 = .ok (.pop, 1) := by decide +kernel
theorem dX12_readsPerson_30 : decode cX12_readsPerson 30 = .ok (.iconst 4, 1) := by decide +kernel
theorem dX12_readsPerson_31 : decode cX12_readsPerson 31 = .ok (.iconst 5, 1) := by decide +kernel
theorem dX12_readsPerson_32 : decode cX12_readsPerson 32 = .ok (.aload_n 0, 1) := by decide +kernel
theorem dX12_readsPerson_33 : decode cX12_readsPerson 33 = .ok (.getfield 28, 3) := by decide +kernel
theorem dX12_readsPerson_36 : decode cX12_readsPerson 36 = .ok (.iconst 3, 1) := by decide +kernel
theorem dX12_readsPerson_37 : decode cX12_readsPerson 37 = .ok (.iaload, 1) := by decide +kernel
theorem dX12_readsPerson_38 : decode cX12_readsPerson 38 = .ok (.bipush 6, 2) := by decide +kernel
theorem dX12_readsPerson_40 : decode cX12_readsPerson 40 = .ok (.if_icmp .ge 12, 3) := by decide +kernel
theorem dX12_readsPerson_43 : decode cX12_readsPerson 43 = .ok (.aload_n 0, 1) := by decide +kernel
theorem dX12_readsPerson_44 : decode cX12_readsPerson 44 = .ok (.getfield 28, 3) := by decide +kernel
theorem dX12_readsPerson_47 : decode cX12_readsPerson 47 = .ok (.iconst 3, 1) := by decide +kernel
theorem dX12_readsPerson_48 : decode cX12_readsPerson 48 = .ok (.iaload, 1) := by decide +kernel
theorem dX12_readsPerson_49 : decode cX12_readsPerson 49 = .ok (.goto 4, 3) := by decide +kernel
theorem dX12_readsPerson_52 : decode cX12_readsPerson 52 = .ok (.iconst 0, 1) := by decide +kernel
theorem dX12_readsPerson_53 : decode cX12_readsPerson 53 = .ok (.imul, 1) := by decide +kernel
theorem dX12_readsPerson_54 : decode cX12_readsPerson 54 = .ok (.iadd, 1) := by decide +kernel
theorem dX12_readsPerson_55 : decode cX12_readsPerson 55 = .ok (.istore_n 2, 1) := by decide +kernel
theorem dX12_readsPerson_56 : decode cX12_readsPerson 56 = .ok (.aload_n 0, 1) := by decide +kernel
theorem dX12_readsPerson_57 : decode cX12_readsPerson 57 = .ok (.iconst 0, 1) := by decide +kernel
theorem dX12_readsPerson_58 : decode cX12_readsPerson 58 = .ok (.aload_n 0, 1) := by decide +kernel
theorem dX12_readsPerson_59 : decode cX12_readsPerson 59 = .ok (.getfield 28, 3) := by decide +kernel
theorem dX12_readsPerson_62 : decode cX12_readsPerson 62 = .ok (.iconst 0, 1) := by decide +kernel
theorem dX12_readsPerson_63 : decode cX12_readsPerson 63 = .ok (.iaload, 1) := by decide +kernel
theorem dX12_readsPerson_64 : decode cX12_readsPerson 64 = .ok (.iconst 1, 1) := by decide +kernel
theorem dX12_readsPerson_65 : decode cX12_readsPerson 65 = .ok (.isub, 1) := by decide +kernel
theorem dX12_readsPerson_66 : decode cX12_readsPerson 66 = .ok (.invokevirtual 115, 3) := by decide +kernel
theorem dX12_readsPerson_69 : decode cX12_readsPerson 69 = .ok (.istore_n 3, 1) := by decide +kernel
theorem dX12_readsPerson_70 : decode cX12_readsPerson 70 = .ok (.aload_n 0, 1) := by decide +kernel
theorem dX12_readsPerson_71 : decode cX12_readsPerson 71 = .ok (.iconst 0, 1) := by decide +kernel
theorem dX12_readsPerson_72 : decode cX12_readsPerson 72 = .ok (.bipush 20, 2) := by decide +kernel
theorem dX12_readsPerson_74 : decode cX12_readsPerson 74 = .ok (.invokevirtual 121, 3) := by decide +kernel
theorem dX12_readsPerson_77 : decode cX12_readsPerson 77 = .ok (.istore 4, 2) := by decide +kernel
theorem dX12_readsPerson_79 : decode cX12_readsPerson 79 = .ok (.aload_n 0, 1) := by decide +kernel
theorem dX12_readsPerson_80 : decode cX12_readsPerson 80 = .ok (.iconst 0, 1) := by decide +kernel
theorem dX12_readsPerson_81 : decode cX12_readsPerson 81 = .ok (.aload_n 0, 1) := by decide +kernel
theorem dX12_readsPerson_82 : decode cX12_readsPerson 82 = .ok (.getfield 28, 3) := by decide +kernel
theorem dX12_readsPerson_85 : decode cX12_readsPerson 85 = .ok (.iconst 0, 1) := by decide +kernel
theorem dX12_readsPerson_86 : decode cX12_readsPerson 86 = .ok (.iaload, 1) := by decide +kernel
theorem dX12_readsPerson_87 : decode cX12_readsPerson 87 = .ok (.iconst 1, 1) := by decide +kernel
theorem dX12_readsPerson_88 : decode cX12_readsPerson 88 = .ok (.isub, 1) := by decide +kernel
theorem dX12_readsPerson_89 : decode cX12_readsPerson 89 = .ok (.invokevirtual 121, 3) := by decide +kernel
theorem dX12_readsPerson_92 : decode cX12_readsPerson 92 = .ok (.istore 5, 2) := by decide +kernel
theorem dX12_readsPerson_94 : decode cX12_readsPerson 94 = .ok (.aload_n 0, 1) := by decide +kernel
theorem dX12_readsPerson_95 : decode cX12_readsPerson 95 = .ok (.aload_n 0, 1) := by decide +kernel
theorem dX12_readsPerson_96 : decode cX12_readsPerson 96 = .ok (.getfield 95, 3) := by decide +kernel
theorem dX12_readsPerson_99 : decode cX12_readsPerson 99 = .ok (.iconst 4, 1) := by decide +kernel
theorem dX12_readsPerson_100 : decode cX12_readsPerson 100 = .ok (.if_icmp .ne 7, 3) := by decide +kernel
theorem dX12_readsPerson_103 : decode cX12_readsPerson 103 = .ok (.iconst 1, 1) := by decide +kernel
theorem dX12_readsPerson_104 : decode cX12_readsPerson 104 = .ok (.goto 4, 3) := by decide +kernel
theorem dX12_readsPerson_107 : decode cX12_readsPerson 107 = .ok (.iconst 0, 1) := by decide +kernel
theorem dX12_readsPerson_108 : decode cX12_readsPerson 108 = .ok (.iconst 1, 1) := by decide +kernel
theorem dX12_readsPerson_109 : decode cX12_readsPerson 109 = .ok (.invokevirtual 111, 3) := by decide +kernel
theorem dX12_readsPerson_112 : decode cX12_readsPerson 112 = .ok (.pop, 1) := by decide +kernel
theorem dX12_readsPerson_113 : decode cX12_readsPerson 113 = .ok (.aload_n 0, 1) := by decide +kernel
theorem dX12_readsPerson_114 : decode cX12_readsPerson 114 = .ok (.invokevirtual 101, 3) := by decide +kernel
theorem dX12_readsPerson_117 : decode cX12_readsPerson 117 = .ok (.ifCond .eq 49, 3) := by decide +kernel
theorem dX12_readsPerson_120 : decode cX12_readsPerson 120 = .ok (.aload_n 0, 1) := by decide +kernel
theorem dX12_readsPerson_121 : decode cX12_readsPerson 121 = .ok (.getfield 28, 3) := by decide +kernel
theorem dX12_readsPerson_124 : decode cX12_readsPerson 124 = .ok (.iload_n 2, 1) := by decide +kernel
theorem dX12_readsPerson_125 : decode cX12_readsPerson 125 = .ok (.iload_n 1, 1) := by decide +kernel
theorem dX12_readsPerson_126 : decode cX12_readsPerson 126 = .ok (.iastore, 1) := by decide +kernel
theorem dX12_readsPerson_127 : decode cX12_readsPerson 127 = .ok (.aload_n 0, 1) := by decide +kernel
theorem dX12_readsPerson_128 : decode cX12_readsPerson 128 = .ok (.getfield 28, 3) := by decide +kernel
theorem dX12_readsPerson_131 : decode cX12_readsPerson 131 = .ok (.iload_n 2, 1) := by decide +kernel
theorem dX12_readsPerson_132 : decode cX12_readsPerson 132 = .ok (.iconst 1, 1) := by decide +kernel
theorem dX12_readsPerson_133 : decode cX12_readsPerson 133 = .ok (.iadd, 1) := by decide +kernel
theorem dX12_readsPerson_134 : decode cX12_readsPerson 134 = .ok (.iload_n 3, 1) := by decide +kernel
theorem dX12_readsPerson_135 : decode cX12_readsPerson 135 = .ok (.iastore, 1) := by decide +kernel
theorem dX12_readsPerson_136 : decode cX12_readsPerson 136 = .ok (.aload_n 0, 1) := by decide +kernel
theorem dX12_readsPerson_137 : decode cX12_readsPerson 137 = .ok (.getfield 28, 3) := by decide +kernel
theorem dX12_readsPerson_140 : decode cX12_readsPerson 140 = .ok (.iload_n 2, 1) := by decide +kernel
theorem dX12_readsPerson_141 : decode cX12_readsPerson 141 = .ok (.iconst 2, 1) := by decide +kernel
theorem dX12_readsPerson_142 : decode cX12_readsPerson 142 = .ok (.iadd, 1) := by decide +kernel
theorem dX12_readsPerson_143 : decode cX12_readsPerson 143 = .ok (.iload 4, 2) := by decide +kernel
theorem dX12_readsPerson_145 : decode cX12_readsPerson 145 = .ok (.iastore, 1) := by decide +kernel
theorem dX12_readsPerson_146 : decode cX12_readsPerson 146 = .ok (.aload_n 0, 1) := by decide +kernel
theorem dX12_readsPerson_147 : decode cX12_readsPerson 147 = .ok (.getfield 28, 3) := by decide +kernel
theorem dX12_readsPerson_150 : decode cX12_readsPerson 150 = .ok (.iload_n 2, 1) := by decide +kernel
theorem dX12_readsPerson_151 : decode cX12_readsPerson 151 = .ok (.iconst 3, 1) := by decide +kernel
theorem dX12_readsPerson_152 : decode cX12_readsPerson 152 = .ok (.iadd, 1) := by decide +kernel
theorem dX12_readsPerson_153 : decode cX12_readsPerson 153 = .ok (.iload 5, 2) := by decide +kernel
theorem dX12_readsPerson_155 : decode cX12_readsPerson 155 = .ok (.iastore, 1) := by decide +kernel
theorem dX12_readsPerson_156 : decode cX12_readsPerson 156 = .ok (.aload_n 0, 1) := by decide +kernel
theorem dX12_readsPerson_157 : decode cX12_readsPerson 157 = .ok (.getfield 28, 3) := by decide +kernel
theorem dX12_readsPerson_160 : decode cX12_readsPerson 160 = .ok (.iconst 3, 1) := by decide +kernel
theorem dX12_readsPerson_161 : decode cX12_readsPerson 161 = .ok (.dup2, 1) := by decide +kernel
theorem dX12_readsPerson_162 : decode cX12_readsPerson 162 = .ok (.iaload, 1) := by decide +kernel
theorem dX12_readsPerson_163 : decode cX12_readsPerson 163 = .ok (.iconst 1, 1) := by decide +kernel
theorem dX12_readsPerson_164 : decode cX12_readsPerson 164 = .ok (.iadd, 1) := by decide +kernel
theorem dX12_readsPerson_165 : decode cX12_readsPerson 165 = .ok (.iastore, 1) := by decide +kernel
theorem dX12_readsPerson_166 : decode cX12_readsPerson 166 = .ok (.return_, 1) := by decide +kernel
theorem dX12_line_0 : decode cX12_line 0 = .ok (.iconst 0, 1) := by decide +kernel
theorem dX12_line_1 : decode cX12_line 1 = .ok (.istore_n 1, 1) := by decide +kernel
theorem dX12_line_2 : decode cX12_line 2 = .ok (.iload_n 1, 1) := by decide +kernel
theorem dX12_line_3 : decode cX12_line 3 = .ok (.bipush 34, 2) := by decide +kernel
theorem dX12_line_5 : decode cX12_line 5 = .ok (.if_icmp .ge 16, 3) := by decide +kernel
theorem dX12_line_8 : decode cX12_line 8 = .ok (.aload_n 0, 1) := by decide +kernel
theorem dX12_line_9 : decode cX12_line 9 = .ok (.getfield 28, 3) := by decide +kernel
theorem dX12_line_12 : decode cX12_line 12 = .ok (.iload_n 1, 1) := by decide +kernel
theorem dX12_line_13 : decode cX12_line 13 = .ok (.iconst 0, 1) := by decide +kernel
theorem dX12_line_14 : decode cX12_line 14 = .ok (.iastore, 1) := by decide +kernel
theorem dX12_line_15 : decode cX12_line 15 = .ok (.iinc 1 1, 3) := by decide +kernel
theorem dX12_line_18 : decode cX12_line 18 = .ok (.goto (-16), 3) := by decide +kernel
theorem dX12_line_21 : decode cX12_line 21 = .ok (.aload_n 0, 1) := by decide +kernel
theorem dX12_line_22 : decode cX12_line 22 = .ok (.iconst 0, 1) := by decide +kernel
theorem dX12_line_23 : decode cX12_line 23 = .ok (.putfield 83, 3) := by decide +kernel
theorem dX12_line_26 : decode cX12_line 26 = .ok (.aload_n 0, 1) := by decide +kernel
theorem dX12_line_27 : decode cX12_line 27 = .ok (.iconst (-1), 1) := by decide +kernel
theorem dX12_line_28 : decode cX12_line 28 = .ok (.putfield 98, 3) := by decide +kernel
theorem dX12_line_31 : decode cX12_line 31 = .ok (.aload_n 0, 1) := by decide +kernel
theorem dX12_line_32 : decode cX12_line 32 = .ok (.invokevirtual 108, 3) := by decide +kernel
theorem dX12_line_35 : decode cX12_line 35 = .ok (.aload_n 0, 1) := by decide +kernel
theorem dX12_line_36 : decode cX12_line 36 = .ok (.aload_n 0, 1) := by decide +kernel
theorem dX12_line_37 : decode cX12_line 37 = .ok (.getfield 95, 3) := by decide +kernel
theorem dX12_line_40 : decode cX12_line 40 = .ok (.iconst 1, 1) := by decide +kernel
theorem dX12_line_41 : decode cX12_line 41 = .ok (.if_icmp .ne 16, 3) := by decide +kernel
theorem dX12_line_44 : decode cX12_line 44 = .ok (.aload_n 0, 1) := by decide +kernel
theorem dX12_line_45 : decode cX12_line 45 = .ok (.getfield 92, 3) := by decide +kernel
theorem dX12_line_48 : decode cX12_line 48 = .ok (.bipush 116, 2) := by decide +kernel
theorem dX12_line_50 : decode cX12_line 50 = .ok (.if_icmp .ne 7, 3) := by decide +kernel
theorem dX12_line_53 : decode cX12_line 53 = .ok (.iconst 1, 1) := by decide +kernel
theorem dX12_line_54 : decode cX12_line 54 = .ok (.goto 4, 3) := by decide +kernel
theorem dX12_line_57 : decode cX12_line 57 = .ok (.iconst 0, 1) := by decide +kernel
theorem dX12_line_58 : decode cX12_line 58 = .ok (.iconst 1, 1) := by decide +kernel
theorem dX12_line_59 : decode cX12_line 59 = .ok (.invokevirtual 111, 3) := by decide +kernel
theorem dX12_line_62 : decode cX12_line 62 = .ok (.pop, 1) := by decide +kernel
theorem dX12_line_63 : decode cX12_line 63 = .ok (.aload_n 0, 1) := by decide +kernel
theorem dX12_line_64 : decode cX12_line 64 = .ok (.getfield 28, 3) := by decide +kernel
theorem dX12_line_67 : decode cX12_line 67 = .ok (.iconst 0, 1) := by decide +kernel
theorem dX12_line_68 : decode cX12_line 68 = .ok (.aload_n 0, 1) := by decide +kernel
theorem dX12_line_69 : decode cX12_line 69 = .ok (.iconst 2, 1) := by decide +kernel
theorem dX12_line_70 : decode cX12_line 70 = .ok (.bipush 8, 2) := by decide +kernel
theorem dX12_line_72 : decode cX12_line 72 = .ok (.invokevirtual 115, 3) := by decide +kernel
theorem dX12_line_75 : decode cX12_line 75 = .ok (.iastore, 1) := by decide +kernel
theorem dX12_line_76 : decode cX12_line 76 = .ok (.aload_n 0, 1) := by decide +kernel
theorem dX12_line_77 : decode cX12_line 77 = .ok (.getfield 28, 3) := by decide +kernel
theorem dX12_line_80 : decode cX12_line 80 = .ok (.iconst 1, 1) := by decide +kernel
theorem dX12_line_81 : decode cX12_line 81 = .ok (.aload_n 0, 1) := by decide +kernel
theorem dX12_line_82 : decode cX12_line 82 = .ok (.iconst 0, 1) := by decide +kernel
theorem dX12_line_83 : decode cX12_line 83 = .ok (.bipush 40, 2) := by decide +kernel
theorem dX12_line_85 : decode cX12_line 85 = .ok (.invokevirtual 121, 3) := by decide +kernel
theorem dX12_line_88 : decode cX12_line 88 = .ok (.iastore, 1) := by decide +kernel
theorem dX12_line_89 : decode cX12_line 89 = .ok (.aload_n 0, 1) := by decide +kernel
theorem dX12_line_90 : decode cX12_line 90 = .ok (.aload_n 0, 1) := by decide +kernel
theorem dX12_line_91 : decode cX12_line 91 = .ok (.getfield 95, 3) := by decide +kernel
theorem dX12_line_94 : decode cX12_line 94 = .ok (.iconst 4, 1) := by decide +kernel
theorem dX12_line_95 : decode cX12_line 95 = .ok (.if_icmp .ne 7, 3) := by decide +kernel
theorem dX12_line_98 : decode cX12_line 98 = .ok (.iconst 1, 1) := by decide +kernel
theorem dX12_line_99 : decode cX12_line 99 = .ok (.goto 4, 3) := by decide +kernel
theorem dX12_line_102 : decode cX12_line 102 = .ok (.iconst 0, 1) := by decide +kernel
theorem dX12_line_103 : decode cX12_line 103 = .ok (.iconst 1, 1) := by decide +kernel
theorem dX12_line_104 : decode cX12_line 104 = .ok (.invokevirtual 111, 3) := by decide +kernel
theorem dX12_line_107 : decode cX12_line 107 = .ok (.pop, 1) := by decide +kernel
theorem dX12_line_108 : decode cX12_line 108 = .ok (.aload_n 0, 1) := by decide +kernel
theorem dX12_line_109 : decode cX12_line 109 = .ok (.invokevirtual 101, 3) := by decide +kernel
theorem dX12_line_112 : decode cX12_line 112 = .ok (.ifCond .eq 28, 3) := by decide +kernel
theorem dX12_line_115 : decode cX12_line 115 = .ok (.aload_n 0, 1) := by decide +kernel
theorem dX12_line_116 : decode cX12_line 116 = .ok (.getfield 95, 3) := by decide +kernel
theorem dX12_line_119 : decode cX12_line 119 = .ok (.iconst 1, 1) := by decide +kernel
theorem dX12_line_120 : decode cX12_line 120 = .ok (.if_icmp .ne 20, 3) := by decide +kernel
theorem dX12_line_123 : decode cX12_line 123 = .ok (.aload_n 0, 1) := by decide +kernel
theorem dX12_line_124 : decode cX12_line 124 = .ok (.getfield 92, 3) := by decide +kernel
theorem dX12_line_127 : decode cX12_line 127 = .ok (.invokestatic 118, 3) := by decide +kernel
theorem dX12_line_130 : decode cX12_line 130 = .ok (.ifCond .le 10, 3) := by decide +kernel
theorem dX12_line_133 : decode cX12_line 133 = .ok (.aload_n 0, 1) := by decide +kernel
theorem dX12_line_134 : decode cX12_line 134 = .ok (.invokevirtual 124, 3) := by decide +kernel
theorem dX12_line_137 : decode cX12_line 137 = .ok (.goto (-29), 3) := by decide +kernel
theorem dX12_line_140 : decode cX12_line 140 = .ok (.aload_n 0, 1) := by decide +kernel
theorem dX12_line_141 : decode cX12_line 141 = .ok (.invokevirtual 101, 3) := by decide +kernel
theorem dX12_line_144 : decode cX12_line 144 = .ok (.ifCond .eq 17, 3) := by decide +kernel
theorem dX12_line_147 : decode cX12_line 147 = .ok (.aload_n 0, 1) := by decide +kernel
theorem dX12_line_148 : decode cX12_line 148 = .ok (.getfield 95, 3) := by decide +kernel
theorem dX12_line_151 : decode cX12_line 151 = .ok (.ifCond .eq 10, 3) := by decide +kernel
theorem dX12_line_154 : decode cX12_line 154 = .ok (.aload_n 0, 1) := by decide +kernel
theorem dX12_line_155 : decode cX12_line 155 = .ok (.iconst 0, 1) := by decide +kernel
theorem dX12_line_156 : decode cX12_line 156 = .ok (.iconst 1, 1) := by decide +kernel
theorem dX12_line_157 : decode cX12_line 157 = .ok (.invokevirtual 111, 3) := by decide +kernel
theorem dX12_line_160 : decode cX12_line 160 = .ok (.pop, 1) := by decide +kernel
theorem dX12_line_161 : decode cX12_line 161 = .ok (.aload_n 0, 1) := by decide +kernel
theorem dX12_line_162 : decode cX12_line 162 = .ok (.iconst 0, 1) := by decide +kernel
theorem dX12_line_163 : decode cX12_line 163 = .ok (.putfield 79, 3) := by decide +kernel
theorem dX12_line_166 : decode cX12_line 166 = .ok (.aload_n 0, 1) := by decide +kernel
theorem dX12_line_167 : decode cX12_line 167 = .ok (.invokevirtual 101, 3) := by decide +kernel
theorem dX12_line_170 : decode cX12_line 170 = .ok (.ifCond .ne 11, 3) := by decide +kernel
theorem dX12_line_173 : decode cX12_line 173 = .ok (.ldc 127, 2) := by decide +kernel
theorem dX12_line_175 : decode cX12_line 175 = .ok (.aload_n 0, 1) := by decide +kernel
theorem dX12_line_176 : decode cX12_line 176 = .ok (.getfield 98, 3) := by decide +kernel
theorem dX12_line_179 : decode cX12_line 179 = .ok (.isub, 1) := by decide +kernel
theorem dX12_line_180 : decode cX12_line 180 = .ok (.ireturn, 1) := by decide +kernel
theorem dX12_line_181 : decode cX12_line 181 = .ok (.aload_n 0, 1) := by decide +kernel
theorem dX12_line_182 : decode cX12_line 182 = .ok (.getfield 28, 3) := by decide +kernel
theorem dX12_line_185 : decode cX12_line 185 = .ok (.iconst 0, 1) := by decide +kernel
theorem dX12_line_186 : decode cX12_line 186 = .ok (.aload_n 0, 1) := by decide +kernel
theorem dX12_line_187 : decode cX12_line 187 = .ok (.getfield 25, 3) := by decide +kernel
theorem dX12_line_190 : decode cX12_line 190 = .ok (.iconst 0, 1) := by decide +kernel
theorem dX12_line_191 : decode cX12_line 191 = .ok (.invokestatic 128, 3) := by decide +kernel
theorem dX12_line_194 : decode cX12_line 194 = .ok (.aload_n 0, 1) := by decide +kernel
theorem dX12_line_195 : decode cX12_line 195 = .ok (.iconst 0, 1) := by decide +kernel
theorem dX12_line_196 : decode cX12_line 196 = .ok (.putfield 132, 3) := by decide +kernel
theorem dX12_line_199 : decode cX12_line 199 = .ok (.aload_n 0, 1) := by decide +kernel
theorem dX12_line_200 : decode cX12_line 200 = .ok (.getfield 25, 3) := by decide +kernel
theorem dX12_line_203 : decode cX12_line 203 = .ok (.iconst 3, 1) := by decide +kernel
theorem dX12_line_204 : decode cX12_line 204 = .ok (.iaload, 1) := by decide +kernel
theorem dX12_line_205 : decode cX12_line 205 = .ok (.ireturn, 1) := by decide +kernel
theorem dX12_fault_0 : decode cX12_fault 0 = .ok (.aload_n 0, 1) := by decide +kernel
theorem dX12_fault_1 : decode cX12_fault 1 = .ok (.getfield 105, 3) := by decide +kernel
theorem dX12_fault_4 : decode cX12_fault 4 = .ok (.ireturn, 1) := by decide +kernel
theorem dX12_isLine_0 : decode cX12_isLine 0 = .ok (.aload_n 0, 1) := by decide +kernel
theorem dX12_isLine_1 : decode cX12_isLine 1 = .ok (.getfield 25, 3) := by decide +kernel
theorem dX12_isLine_4 : decode cX12_isLine 4 = .ok (.iconst 0, 1) := by decide +kernel
theorem dX12_isLine_5 : decode cX12_isLine 5 = .ok (.iaload, 1) := by decide +kernel
theorem dX12_isLine_6 : decode cX12_isLine 6 = .ok (.ifCond .le 7, 3) := by decide +kernel
theorem dX12_isLine_9 : decode cX12_isLine 9 = .ok (.iconst 1, 1) := by decide +kernel
theorem dX12_isLine_10 : decode cX12_isLine 10 = .ok (.goto 4, 3) := by decide +kernel
theorem dX12_isLine_13 : decode cX12_isLine 13 = .ok (.iconst 0, 1) := by decide +kernel
theorem dX12_isLine_14 : decode cX12_isLine 14 = .ok (.ireturn, 1) := by decide +kernel
theorem dX12_isPerson_0 : decode cX12_isPerson 0 = .ok (.iload_n 1, 1) := by decide +kernel
theorem dX12_isPerson_1 : decode cX12_isPerson 1 = .ok (.iconst 0, 1) := by decide +kernel
theorem dX12_isPerson_2 : decode cX12_isPerson 2 = .ok (.aload_n 0, 1) := by decide +kernel
theorem dX12_isPerson_3 : decode cX12_isPerson 3 = .ok (.getfield 25, 3) := by decide +kernel
theorem dX12_isPerson_6 : decode cX12_isPerson 6 = .ok (.iconst 3, 1) := by decide +kernel
theorem dX12_isPerson_7 : decode cX12_isPerson 7 = .ok (.iaload, 1) := by decide +kernel
theorem dX12_isPerson_8 : decode cX12_isPerson 8 = .ok (.iconst 1, 1) := by decide +kernel
theorem dX12_isPerson_9 : decode cX12_isPerson 9 = .ok (.isub, 1) := by decide +kernel
theorem dX12_isPerson_10 : decode cX12_isPerson 10 = .ok (.invokestatic 53, 3) := by decide +kernel
theorem dX12_isPerson_13 : decode cX12_isPerson 13 = .ok (.ireturn, 1) := by decide +kernel
theorem dX12_isStop_0 : decode cX12_isStop 0 = .ok (.iload_n 1, 1) := by decide +kernel
theorem dX12_isStop_1 : decode cX12_isStop 1 = .ok (.iconst 0, 1) := by decide +kernel
theorem dX12_isStop_2 : decode cX12_isStop 2 = .ok (.aload_n 0, 1) := by decide +kernel
theorem dX12_isStop_3 : decode cX12_isStop 3 = .ok (.getfield 25, 3) := by decide +kernel
theorem dX12_isStop_6 : decode cX12_isStop 6 = .ok (.iconst 0, 1) := by decide +kernel
theorem dX12_isStop_7 : decode cX12_isStop 7 = .ok (.iaload, 1) := by decide +kernel
theorem dX12_isStop_8 : decode cX12_isStop 8 = .ok (.iconst 1, 1) := by decide +kernel
theorem dX12_isStop_9 : decode cX12_isStop 9 = .ok (.isub, 1) := by decide +kernel
theorem dX12_isStop_10 : decode cX12_isStop 10 = .ok (.invokestatic 53, 3) := by decide +kernel
theorem dX12_isStop_13 : decode cX12_isStop 13 = .ok (.ireturn, 1) := by decide +kernel
theorem dX12_isFar_0 : decode cX12_isFar 0 = .ok (.iload_n 0, 1) := by decide +kernel
theorem dX12_isFar_1 : decode cX12_isFar 1 = .ok (.iconst 0, 1) := by decide +kernel
theorem dX12_isFar_2 : decode cX12_isFar 2 = .ok (.bipush 60, 2) := by decide +kernel
theorem dX12_isFar_4 : decode cX12_isFar 4 = .ok (.invokestatic 53, 3) := by decide +kernel
theorem dX12_isFar_7 : decode cX12_isFar 7 = .ok (.ireturn, 1) := by decide +kernel
theorem dX12_atStop_0 : decode cX12_atStop 0 = .ok (.iconst 0, 1) := by decide +kernel
theorem dX12_atStop_1 : decode cX12_atStop 1 = .ok (.istore_n 2, 1) := by decide +kernel
theorem dX12_atStop_2 : decode cX12_atStop 2 = .ok (.iconst 0, 1) := by decide +kernel
theorem dX12_atStop_3 : decode cX12_atStop 3 = .ok (.istore_n 3, 1) := by decide +kernel
theorem dX12_atStop_4 : decode cX12_atStop 4 = .ok (.iload_n 3, 1) := by decide +kernel
theorem dX12_atStop_5 : decode cX12_atStop 5 = .ok (.aload_n 0, 1) := by decide +kernel
theorem dX12_atStop_6 : decode cX12_atStop 6 = .ok (.iconst 3, 1) := by decide +kernel
theorem dX12_atStop_7 : decode cX12_atStop 7 = .ok (.iaload, 1) := by decide +kernel
theorem dX12_atStop_8 : decode cX12_atStop 8 = .ok (.if_icmp .ge 32, 3) := by decide +kernel
theorem dX12_atStop_11 : decode cX12_atStop 11 = .ok (.iload_n 2, 1) := by decide +kernel
theorem dX12_atStop_12 : decode cX12_atStop 12 = .ok (.aload_n 0, 1) := by decide +kernel
theorem dX12_atStop_13 : decode cX12_atStop 13 = .ok (.iconst 4, 1) := by decide +kernel
theorem dX12_atStop_14 : decode cX12_atStop 14 = .ok (.iconst 5, 1) := by decide +kernel
theorem dX12_atStop_15 : decode cX12_atStop 15 = .ok (.iload_n 3, 1) := by decide +kernel
theorem dX12_atStop_16 : decode cX12_atStop 16 = .ok (.imul, 1) := by decide +kernel
theorem dX12_atStop_17 : decode cX12_atStop 17 = .ok (.iadd, 1) := by decide +kernel
theorem dX12_atStop_18 : decode cX12_atStop 18 = .ok (.iconst 1, 1) := by decide +kernel
theorem dX12_atStop_19 : decode cX12_atStop 19 = .ok (.iadd, 1) := by decide +kernel
theorem dX12_atStop_20 : decode cX12_atStop 20 = .ok (.iaload, 1) := by decide +kernel
theorem dX12_atStop_21 : decode cX12_atStop 21 = .ok (.iload_n 1, 1) := by decide +kernel
theorem dX12_atStop_22 : decode cX12_atStop 22 = .ok (.if_icmp .ne 9, 3) := by decide +kernel
theorem dX12_atStop_25 : decode cX12_atStop 25 = .ok (.iconst 1, 1) := by decide +kernel
theorem dX12_atStop_26 : decode cX12_atStop 26 = .ok (.iload_n 3, 1) := by decide +kernel
theorem dX12_atStop_27 : decode cX12_atStop 27 = .ok (.ishl, 1) := by decide +kernel
theorem dX12_atStop_28 : decode cX12_atStop 28 = .ok (.goto 4, 3) := by decide +kernel
theorem dX12_atStop_31 : decode cX12_atStop 31 = .ok (.iconst 0, 1) := by decide +kernel
theorem dX12_atStop_32 : decode cX12_atStop 32 = .ok (.ior, 1) := by decide +kernel
theorem dX12_atStop_33 : decode cX12_atStop 33 = .ok (.istore_n 2, 1) := by decide +kernel
theorem dX12_atStop_34 : decode cX12_atStop 34 = .ok (.iinc 3 1, 3) := by decide +kernel
theorem dX12_atStop_37 : decode cX12_atStop 37 = .ok (.goto (-33), 3) := by decide +kernel
theorem dX12_atStop_40 : decode cX12_atStop 40 = .ok (.iload_n 2, 1) := by decide +kernel
theorem dX12_atStop_41 : decode cX12_atStop 41 = .ok (.ireturn, 1) := by decide +kernel
theorem dX12_hopes_0 : decode cX12_hopes 0 = .ok (.iconst 4, 1) := by decide +kernel
theorem dX12_hopes_1 : decode cX12_hopes 1 = .ok (.iconst 5, 1) := by decide +kernel
theorem dX12_hopes_2 : decode cX12_hopes 2 = .ok (.iload_n 1, 1) := by decide +kernel
theorem dX12_hopes_3 : decode cX12_hopes 3 = .ok (.imul, 1) := by decide +kernel
theorem dX12_hopes_4 : decode cX12_hopes 4 = .ok (.iadd, 1) := by decide +kernel
theorem dX12_hopes_5 : decode cX12_hopes 5 = .ok (.istore_n 2, 1) := by decide +kernel
theorem dX12_hopes_6 : decode cX12_hopes 6 = .ok (.aload_n 0, 1) := by decide +kernel
theorem dX12_hopes_7 : decode cX12_hopes 7 = .ok (.aload_n 0, 1) := by decide +kernel
theorem dX12_hopes_8 : decode cX12_hopes 8 = .ok (.iload_n 2, 1) := by decide +kernel
theorem dX12_hopes_9 : decode cX12_hopes 9 = .ok (.iconst 1, 1) := by decide +kernel
theorem dX12_hopes_10 : decode cX12_hopes 10 = .ok (.iadd, 1) := by decide +kernel
theorem dX12_hopes_11 : decode cX12_hopes 11 = .ok (.iaload, 1) := by decide +kernel
theorem dX12_hopes_12 : decode cX12_hopes 12 = .ok (.invokestatic 135, 3) := by decide +kernel
theorem dX12_hopes_15 : decode cX12_hopes 15 = .ok (.invokestatic 139, 3) := by decide +kernel
theorem dX12_hopes_18 : decode cX12_hopes 18 = .ok (.iconst 1, 1) := by decide +kernel
theorem dX12_hopes_19 : decode cX12_hopes 19 = .ok (.isub, 1) := by decide +kernel
theorem dX12_hopes_20 : decode cX12_hopes 20 = .ok (.istore_n 3, 1) := by decide +kernel
theorem dX12_hopes_21 : decode cX12_hopes 21 = .ok (.aload_n 0, 1) := by decide +kernel
theorem dX12_hopes_22 : decode cX12_hopes 22 = .ok (.iload_n 2, 1) := by decide +kernel
theorem dX12_hopes_23 : decode cX12_hopes 23 = .ok (.iconst 2, 1) := by decide +kernel
theorem dX12_hopes_24 : decode cX12_hopes 24 = .ok (.iadd, 1) := by decide +kernel
theorem dX12_hopes_25 : decode cX12_hopes 25 = .ok (.iaload, 1) := by decide +kernel
theorem dX12_hopes_26 : decode cX12_hopes 26 = .ok (.aload_n 0, 1) := by decide +kernel
theorem dX12_hopes_27 : decode cX12_hopes 27 = .ok (.iload_n 2, 1) := by decide +kernel
theorem dX12_hopes_28 : decode cX12_hopes 28 = .ok (.iconst 4, 1) := by decide +kernel
theorem dX12_hopes_29 : decode cX12_hopes 29 = .ok (.iadd, 1) := by decide +kernel
theorem dX12_hopes_30 : decode cX12_hopes 30 = .ok (.iaload, 1) := by decide +kernel
theorem dX12_hopes_31 : decode cX12_hopes 31 = .ok (.isub, 1) := by decide +kernel
theorem dX12_hopes_32 : decode cX12_hopes 32 = .ok (.istore 4, 2) := by decide +kernel
theorem dX12_hopes_34 : decode cX12_hopes 34 = .ok (.aload_n 0, 1) := by decide +kernel
theorem dX12_hopes_35 : decode cX12_hopes 35 = .ok (.iload_n 2, 1) := by decide +kernel
theorem dX12_hopes_36 : decode cX12_hopes 36 = .ok (.iaload, 1) := by decide +kernel
theorem dX12_hopes_37 : decode cX12_hopes 37 = .ok (.tableswitch 59 1 4 #[31, 37, 45, 57], 31) := by decide +kernel
theorem dX12_hopes_68 : decode cX12_hopes 68 = .ok (.aload_n 0, 1) := by decide +kernel
theorem dX12_hopes_69 : decode cX12_hopes 69 = .ok (.iload_n 2, 1) := by decide +kernel
theorem dX12_hopes_70 : decode cX12_hopes 70 = .ok (.iconst 2, 1) := by decide +kernel
theorem dX12_hopes_71 : decode cX12_hopes 71 = .ok (.iadd, 1) := by decide +kernel
theorem dX12_hopes_72 : decode cX12_hopes 72 = .ok (.iaload, 1) := by decide +kernel
theorem dX12_hopes_73 : decode cX12_hopes 73 = .ok (.ireturn, 1) := by decide +kernel
theorem dX12_hopes_74 : decode cX12_hopes 74 = .ok (.aload_n 0, 1) := by decide +kernel
theorem dX12_hopes_75 : decode cX12_hopes 75 = .ok (.iload_n 2, 1) := by decide +kernel
theorem dX12_hopes_76 : decode cX12_hopes 76 = .ok (.iconst 2, 1) := by decide +kernel
theorem dX12_hopes_77 : decode cX12_hopes 77 = .ok (.iadd, 1) := by decide +kernel
theorem dX12_hopes_78 : decode cX12_hopes 78 = .ok (.iaload, 1) := by decide +kernel
theorem dX12_hopes_79 : decode cX12_hopes 79 = .ok (.iload_n 3, 1) := by decide +kernel
theorem dX12_hopes_80 : decode cX12_hopes 80 = .ok (.iadd, 1) := by decide +kernel
theorem dX12_hopes_81 : decode cX12_hopes 81 = .ok (.ireturn, 1) := by decide +kernel
theorem dX12_hopes_82 : decode cX12_hopes 82 = .ok (.iload 4, 2) := by decide +kernel
theorem dX12_hopes_84 : decode cX12_hopes 84 = .ok (.ifCond .ge 7, 3) := by decide +kernel
theorem dX12_hopes_87 : decode cX12_hopes 87 = .ok (.iconst 0, 1) := by decide +kernel
theorem dX12_hopes_88 : decode cX12_hopes 88 = .ok (.goto 5, 3) := by decide +kernel
theorem dX12_hopes_91 : decode cX12_hopes 91 = .ok (.iload 4, 2) := by decide +kernel
theorem dX12_hopes_93 : decode cX12_hopes 93 = .ok (.ireturn, 1) := by decide +kernel
theorem dX12_hopes_94 : decode cX12_hopes 94 = .ok (.iconst 3, 1) := by decide +kernel
theorem dX12_hopes_95 : decode cX12_hopes 95 = .ok (.ireturn, 1) := by decide +kernel
theorem dX12_hopes_96 : decode cX12_hopes 96 = .ok (.iload_n 3, 1) := by decide +kernel
theorem dX12_hopes_97 : decode cX12_hopes 97 = .ok (.ifCond .ne 8, 3) := by decide +kernel
theorem dX12_hopes_100 : decode cX12_hopes 100 = .ok (.bipush 13, 2) := by decide +kernel
theorem dX12_hopes_102 : decode cX12_hopes 102 = .ok (.goto 4, 3) := by decide +kernel
theorem dX12_hopes_105 : decode cX12_hopes 105 = .ok (.iconst 3, 1) := by decide +kernel
theorem dX12_hopes_106 : decode cX12_hopes 106 = .ok (.ireturn, 1) := by decide +kernel
theorem dX12_hope_0 : decode cX12_hope 0 = .ok (.iconst 0, 1) := by decide +kernel
theorem dX12_hope_1 : decode cX12_hope 1 = .ok (.istore_n 3, 1) := by decide +kernel
theorem dX12_hope_2 : decode cX12_hope 2 = .ok (.iconst 0, 1) := by decide +kernel
theorem dX12_hope_3 : decode cX12_hope 3 = .ok (.istore 4, 2) := by decide +kernel
theorem dX12_hope_5 : decode cX12_hope 5 = .ok (.iload 4, 2) := by decide +kernel
theorem dX12_hope_7 : decode cX12_hope 7 = .ok (.aload_n 0, 1) := by decide +kernel
theorem dX12_hope_8 : decode cX12_hope 8 = .ok (.iconst 3, 1) := by decide +kernel
theorem dX12_hope_9 : decode cX12_hope 9 = .ok (.iaload, 1) := by decide +kernel
theorem dX12_hope_10 : decode cX12_hope 10 = .ok (.if_icmp .ge 45, 3) := by decide +kernel
theorem dX12_hope_13 : decode cX12_hope 13 = .ok (.iload_n 3, 1) := by decide +kernel
theorem dX12_hope_14 : decode cX12_hope 14 = .ok (.aload_n 0, 1) := by decide +kernel
theorem dX12_hope_15 : decode cX12_hope 15 = .ok (.iconst 4, 1) := by decide +kernel
theorem dX12_hope_16 : decode cX12_hope 16 = .ok (.iconst 5, 1) := by decide +kernel
theorem dX12_hope_17 : decode cX12_hope 17 = .ok (.iload 4, 2) := by decide +kernel
theorem dX12_hope_19 : decode cX12_hope 19 = .ok (.imul, 1) := by decide +kernel
theorem dX12_hope_20 : decode cX12_hope 20 = .ok (.iadd, 1) := by decide +kernel
theorem dX12_hope_21 : decode cX12_hope 21 = .ok (.iconst 1, 1) := by decide +kernel
theorem dX12_hope_22 : decode cX12_hope 22 = .ok (.iadd, 1) := by decide +kernel
theorem dX12_hope_23 : decode cX12_hope 23 = .ok (.iaload, 1) := by decide +kernel
theorem dX12_hope_24 : decode cX12_hope 24 = .ok (.iload_n 1, 1) := by decide +kernel
theorem dX12_hope_25 : decode cX12_hope 25 = .ok (.if_icmp .ne 21, 3) := by decide +kernel
theorem dX12_hope_28 : decode cX12_hope 28 = .ok (.iload_n 2, 1) := by decide +kernel
theorem dX12_hope_29 : decode cX12_hope 29 = .ok (.iload 4, 2) := by decide +kernel
theorem dX12_hope_31 : decode cX12_hope 31 = .ok (.invokestatic 142, 3) := by decide +kernel
theorem dX12_hope_34 : decode cX12_hope 34 = .ok (.ifCond .ne 12, 3) := by decide +kernel
theorem dX12_hope_37 : decode cX12_hope 37 = .ok (.aload_n 0, 1) := by decide +kernel
theorem dX12_hope_38 : decode cX12_hope 38 = .ok (.iload 4, 2) := by decide +kernel
theorem dX12_hope_40 : decode cX12_hope 40 = .ok (.invokestatic 146, 3) := by decide +kernel
theorem dX12_hope_43 : decode cX12_hope 43 = .ok (.goto 4, 3) := by decide +kernel
theorem dX12_hope_46 : decode cX12_hope 46 = .ok (.iconst 0, 1) := by decide +kernel
theorem dX12_hope_47 : decode cX12_hope 47 = .ok (.iadd, 1) := by decide +kernel
theorem dX12_hope_48 : decode cX12_hope 48 = .ok (.istore_n 3, 1) := by decide +kernel
theorem dX12_hope_49 : decode cX12_hope 49 = .ok (.iinc 4 1, 3) := by decide +kernel
theorem dX12_hope_52 : decode cX12_hope 52 = .ok (.goto (-47), 3) := by decide +kernel
theorem dX12_hope_55 : decode cX12_hope 55 = .ok (.iload_n 3, 1) := by decide +kernel
theorem dX12_hope_56 : decode cX12_hope 56 = .ok (.ireturn, 1) := by decide +kernel
theorem dX12_holds_0 : decode cX12_holds 0 = .ok (.iload_n 1, 1) := by decide +kernel
theorem dX12_holds_1 : decode cX12_holds 1 = .ok (.ifCond .le 14, 3) := by decide +kernel
theorem dX12_holds_4 : decode cX12_holds 4 = .ok (.iload_n 1, 1) := by decide +kernel
theorem dX12_holds_5 : decode cX12_holds 5 = .ok (.aload_n 0, 1) := by decide +kernel
theorem dX12_holds_6 : decode cX12_holds 6 = .ok (.iconst 1, 1) := by decide +kernel
theorem dX12_holds_7 : decode cX12_holds 7 = .ok (.iaload, 1) := by decide +kernel
theorem dX12_holds_8 : decode cX12_holds 8 = .ok (.if_icmp .lt 7, 3) := by decide +kernel
theorem dX12_holds_11 : decode cX12_holds 11 = .ok (.iconst 1, 1) := by decide +kernel
theorem dX12_holds_12 : decode cX12_holds 12 = .ok (.goto 4, 3) := by decide +kernel
theorem dX12_holds_15 : decode cX12_holds 15 = .ok (.iconst 0, 1) := by decide +kernel
theorem dX12_holds_16 : decode cX12_holds 16 = .ok (.ireturn, 1) := by decide +kernel
theorem dX12_tramBy_0 : decode cX12_tramBy 0 = .ok (.ldc 47, 2) := by decide +kernel
theorem dX12_tramBy_2 : decode cX12_tramBy 2 = .ok (.istore_n 2, 1) := by decide +kernel
theorem dX12_tramBy_3 : decode cX12_tramBy 3 = .ok (.iconst 0, 1) := by decide +kernel
theorem dX12_tramBy_4 : decode cX12_tramBy 4 = .ok (.istore_n 3, 1) := by decide +kernel
theorem dX12_tramBy_5 : decode cX12_tramBy 5 = .ok (.iconst 0, 1) := by decide +kernel
theorem dX12_tramBy_6 : decode cX12_tramBy 6 = .ok (.istore 4, 2) := by decide +kernel
theorem dX12_tramBy_8 : decode cX12_tramBy 8 = .ok (.iload 4, 2) := by decide +kernel
theorem dX12_tramBy_10 : decode cX12_tramBy 10 = .ok (.aload_n 0, 1) := by decide +kernel
theorem dX12_tramBy_11 : decode cX12_tramBy 11 = .ok (.iconst 0, 1) := by decide +kernel
theorem dX12_tramBy_12 : decode cX12_tramBy 12 = .ok (.iaload, 1) := by decide +kernel
theorem dX12_tramBy_13 : decode cX12_tramBy 13 = .ok (.if_icmp .ge 44, 3) := by decide +kernel
theorem dX12_tramBy_16 : decode cX12_tramBy 16 = .ok (.aload_n 0, 1) := by decide +kernel
theorem dX12_tramBy_17 : decode cX12_tramBy 17 = .ok (.iload 4, 2) := by decide +kernel
theorem dX12_tramBy_19 : decode cX12_tramBy 19 = .ok (.iload_n 1, 1) := by decide +kernel
theorem dX12_tramBy_20 : decode cX12_tramBy 20 = .ok (.invokestatic 149, 3) := by decide +kernel
theorem dX12_tramBy_23 : decode cX12_tramBy 23 = .ok (.istore 5, 2) := by decide +kernel
theorem dX12_tramBy_25 : decode cX12_tramBy 25 = .ok (.iload 5, 2) := by decide +kernel
theorem dX12_tramBy_27 : decode cX12_tramBy 27 = .ok (.iload_n 3, 1) := by decide +kernel
theorem dX12_tramBy_28 : decode cX12_tramBy 28 = .ok (.if_icmp .le 8, 3) := by decide +kernel
theorem dX12_tramBy_31 : decode cX12_tramBy 31 = .ok (.iload 4, 2) := by decide +kernel
theorem dX12_tramBy_33 : decode cX12_tramBy 33 = .ok (.goto 4, 3) := by decide +kernel
theorem dX12_tramBy_36 : decode cX12_tramBy 36 = .ok (.iload_n 2, 1) := by decide +kernel
theorem dX12_tramBy_37 : decode cX12_tramBy 37 = .ok (.istore_n 2, 1) := by decide +kernel
theorem dX12_tramBy_38 : decode cX12_tramBy 38 = .ok (.iload 5, 2) := by decide +kernel
theorem dX12_tramBy_40 : decode cX12_tramBy 40 = .ok (.iload_n 3, 1) := by decide +kernel
theorem dX12_tramBy_41 : decode cX12_tramBy 41 = .ok (.if_icmp .le 8, 3) := by decide +kernel
theorem dX12_tramBy_44 : decode cX12_tramBy 44 = .ok (.iload 5, 2) := by decide +kernel
theorem dX12_tramBy_46 : decode cX12_tramBy 46 = .ok (.goto 4, 3) := by decide +kernel
theorem dX12_tramBy_49 : decode cX12_tramBy 49 = .ok (.iload_n 3, 1) := by decide +kernel
theorem dX12_tramBy_50 : decode cX12_tramBy 50 = .ok (.istore_n 3, 1) := by decide +kernel
theorem dX12_tramBy_51 : decode cX12_tramBy 51 = .ok (.iinc 4 1, 3) := by decide +kernel
theorem dX12_tramBy_54 : decode cX12_tramBy 54 = .ok (.goto (-46), 3) := by decide +kernel
theorem dX12_tramBy_57 : decode cX12_tramBy 57 = .ok (.aload_n 0, 1) := by decide +kernel
theorem dX12_tramBy_58 : decode cX12_tramBy 58 = .ok (.iload_n 3, 1) := by decide +kernel
theorem dX12_tramBy_59 : decode cX12_tramBy 59 = .ok (.invokestatic 153, 3) := by decide +kernel
theorem dX12_tramBy_62 : decode cX12_tramBy 62 = .ok (.ifCond .eq 7, 3) := by decide +kernel
theorem dX12_tramBy_65 : decode cX12_tramBy 65 = .ok (.iload_n 2, 1) := by decide +kernel
theorem dX12_tramBy_66 : decode cX12_tramBy 66 = .ok (.goto 5, 3) := by decide +kernel
theorem dX12_tramBy_69 : decode cX12_tramBy 69 = .ok (.ldc 47, 2) := by decide +kernel
theorem dX12_tramBy_71 : decode cX12_tramBy 71 = .ok (.ireturn, 1) := by decide +kernel
theorem dX12_isThere_0 : decode cX12_isThere 0 = .ok (.aload_n 0, 1) := by decide +kernel
theorem dX12_isThere_1 : decode cX12_isThere 1 = .ok (.iconst 4, 1) := by decide +kernel
theorem dX12_isThere_2 : decode cX12_isThere 2 = .ok (.iconst 5, 1) := by decide +kernel
theorem dX12_isThere_3 : decode cX12_isThere 3 = .ok (.iload_n 1, 1) := by decide +kernel
theorem dX12_isThere_4 : decode cX12_isThere 4 = .ok (.imul, 1) := by decide +kernel
theorem dX12_isThere_5 : decode cX12_isThere 5 = .ok (.iadd, 1) := by decide +kernel
theorem dX12_isThere_6 : decode cX12_isThere 6 = .ok (.iconst 1, 1) := by decide +kernel
theorem dX12_isThere_7 : decode cX12_isThere 7 = .ok (.iadd, 1) := by decide +kernel
theorem dX12_isThere_8 : decode cX12_isThere 8 = .ok (.iaload, 1) := by decide +kernel
theorem dX12_isThere_9 : decode cX12_isThere 9 = .ok (.aload_n 0, 1) := by decide +kernel
theorem dX12_isThere_10 : decode cX12_isThere 10 = .ok (.iconst 4, 1) := by decide +kernel
theorem dX12_isThere_11 : decode cX12_isThere 11 = .ok (.iconst 5, 1) := by decide +kernel
theorem dX12_isThere_12 : decode cX12_isThere 12 = .ok (.iload_n 1, 1) := by decide +kernel
theorem dX12_isThere_13 : decode cX12_isThere 13 = .ok (.imul, 1) := by decide +kernel
theorem dX12_isThere_14 : decode cX12_isThere 14 = .ok (.iadd, 1) := by decide +kernel
theorem dX12_isThere_15 : decode cX12_isThere 15 = .ok (.iconst 3, 1) := by decide +kernel
theorem dX12_isThere_16 : decode cX12_isThere 16 = .ok (.iadd, 1) := by decide +kernel
theorem dX12_isThere_17 : decode cX12_isThere 17 = .ok (.iaload, 1) := by decide +kernel
theorem dX12_isThere_18 : decode cX12_isThere 18 = .ok (.if_icmp .ne 7, 3) := by decide +kernel
theorem dX12_isThere_21 : decode cX12_isThere 21 = .ok (.iconst 1, 1) := by decide +kernel
theorem dX12_isThere_22 : decode cX12_isThere 22 = .ok (.goto 4, 3) := by decide +kernel
theorem dX12_isThere_25 : decode cX12_isThere 25 = .ok (.iconst 0, 1) := by decide +kernel
theorem dX12_isThere_26 : decode cX12_isThere 26 = .ok (.ireturn, 1) := by decide +kernel
theorem dX12_thereIn_0 : decode cX12_thereIn 0 = .ok (.iconst 0, 1) := by decide +kernel
theorem dX12_thereIn_1 : decode cX12_thereIn 1 = .ok (.istore_n 1, 1) := by decide +kernel
theorem dX12_thereIn_2 : decode cX12_thereIn 2 = .ok (.iconst 0, 1) := by decide +kernel
theorem dX12_thereIn_3 : decode cX12_thereIn 3 = .ok (.istore_n 2, 1) := by decide +kernel
theorem dX12_thereIn_4 : decode cX12_thereIn 4 = .ok (.iload_n 2, 1) := by decide +kernel
theorem dX12_thereIn_5 : decode cX12_thereIn 5 = .ok (.aload_n 0, 1) := by decide +kernel
theorem dX12_thereIn_6 : decode cX12_thereIn 6 = .ok (.iconst 3, 1) := by decide +kernel
theorem dX12_thereIn_7 : decode cX12_thereIn 7 = .ok (.iaload, 1) := by decide +kernel
theorem dX12_thereIn_8 : decode cX12_thereIn 8 = .ok (.if_icmp .ge 27, 3) := by decide +kernel
theorem dX12_thereIn_11 : decode cX12_thereIn 11 = .ok (.iload_n 1, 1) := by decide +kernel
theorem dX12_thereIn_12 : decode cX12_thereIn 12 = .ok (.aload_n 0, 1) := by decide +kernel
theorem dX12_thereIn_13 : decode cX12_thereIn 13 = .ok (.iload_n 2, 1) := by decide +kernel
theorem dX12_thereIn_14 : decode cX12_thereIn 14 = .ok (.invokestatic 157, 3) := by decide +kernel
theorem dX12_thereIn_17 : decode cX12_thereIn 17 = .ok (.ifCond .eq 9, 3) := by decide +kernel
theorem dX12_thereIn_20 : decode cX12_thereIn 20 = .ok (.iconst 1, 1) := by decide +kernel
theorem dX12_thereIn_21 : decode cX12_thereIn 21 = .ok (.iload_n 2, 1) := by decide +kernel
theorem dX12_thereIn_22 : decode cX12_thereIn 22 = .ok (.ishl, 1) := by decide +kernel
theorem dX12_thereIn_23 : decode cX12_thereIn 23 = .ok (.goto 4, 3) := by decide +kernel
theorem dX12_thereIn_26 : decode cX12_thereIn 26 = .ok (.iconst 0, 1) := by decide +kernel
theorem dX12_thereIn_27 : decode cX12_thereIn 27 = .ok (.ior, 1) := by decide +kernel
theorem dX12_thereIn_28 : decode cX12_thereIn 28 = .ok (.istore_n 1, 1) := by decide +kernel
theorem dX12_thereIn_29 : decode cX12_thereIn 29 = .ok (.iinc 2 1, 3) := by decide +kernel
theorem dX12_thereIn_32 : decode cX12_thereIn 32 = .ok (.goto (-28), 3) := by decide +kernel
theorem dX12_thereIn_35 : decode cX12_thereIn 35 = .ok (.iload_n 1, 1) := by decide +kernel
theorem dX12_thereIn_36 : decode cX12_thereIn 36 = .ok (.ireturn, 1) := by decide +kernel
theorem dX12_everybody_0 : decode cX12_everybody 0 = .ok (.iconst 1, 1) := by decide +kernel
theorem dX12_everybody_1 : decode cX12_everybody 1 = .ok (.aload_n 0, 1) := by decide +kernel
theorem dX12_everybody_2 : decode cX12_everybody 2 = .ok (.iconst 3, 1) := by decide +kernel
theorem dX12_everybody_3 : decode cX12_everybody 3 = .ok (.iaload, 1) := by decide +kernel
theorem dX12_everybody_4 : decode cX12_everybody 4 = .ok (.ishl, 1) := by decide +kernel
theorem dX12_everybody_5 : decode cX12_everybody 5 = .ok (.iconst 1, 1) := by decide +kernel
theorem dX12_everybody_6 : decode cX12_everybody 6 = .ok (.isub, 1) := by decide +kernel
theorem dX12_everybody_7 : decode cX12_everybody 7 = .ok (.ireturn, 1) := by decide +kernel
theorem dX12_passes_0 : decode cX12_passes 0 = .ok (.aload_n 0, 1) := by decide +kernel
theorem dX12_passes_1 : decode cX12_passes 1 = .ok (.iconst 0, 1) := by decide +kernel
theorem dX12_passes_2 : decode cX12_passes 2 = .ok (.invokestatic 160, 3) := by decide +kernel
theorem dX12_passes_5 : decode cX12_passes 5 = .ok (.istore_n 2, 1) := by decide +kernel
theorem dX12_passes_6 : decode cX12_passes 6 = .ok (.iconst 0, 1) := by decide +kernel
theorem dX12_passes_7 : decode cX12_passes 7 = .ok (.istore_n 3, 1) := by decide +kernel
theorem dX12_passes_8 : decode cX12_passes 8 = .ok (.iload_n 3, 1) := by decide +kernel
theorem dX12_passes_9 : decode cX12_passes 9 = .ok (.aload_n 0, 1) := by decide +kernel
theorem dX12_passes_10 : decode cX12_passes 10 = .ok (.iconst 3, 1) := by decide +kernel
theorem dX12_passes_11 : decode cX12_passes 11 = .ok (.iaload, 1) := by decide +kernel
theorem dX12_passes_12 : decode cX12_passes 12 = .ok (.if_icmp .ge 106, 3) := by decide +kernel
theorem dX12_passes_15 : decode cX12_passes 15 = .ok (.iconst 4, 1) := by decide +kernel
theorem dX12_passes_16 : decode cX12_passes 16 = .ok (.iconst 5, 1) := by decide +kernel
theorem dX12_passes_17 : decode cX12_passes 17 = .ok (.iload_n 3, 1) := by decide +kernel
theorem dX12_passes_18 : decode cX12_passes 18 = .ok (.imul, 1) := by decide +kernel
theorem dX12_passes_19 : decode cX12_passes 19 = .ok (.iadd, 1) := by decide +kernel
theorem dX12_passes_20 : decode cX12_passes 20 = .ok (.istore 4, 2) := by decide +kernel
theorem dX12_passes_22 : decode cX12_passes 22 = .ok (.aload_n 0, 1) := by decide +kernel
theorem dX12_passes_23 : decode cX12_passes 23 = .ok (.iload_n 3, 1) := by decide +kernel
theorem dX12_passes_24 : decode cX12_passes 24 = .ok (.invokestatic 157, 3) := by decide +kernel
theorem dX12_passes_27 : decode cX12_passes 27 = .ok (.ifCond .ne 60, 3) := by decide +kernel
theorem dX12_passes_30 : decode cX12_passes 30 = .ok (.iload_n 1, 1) := by decide +kernel
theorem dX12_passes_31 : decode cX12_passes 31 = .ok (.iload_n 3, 1) := by decide +kernel
theorem dX12_passes_32 : decode cX12_passes 32 = .ok (.invokestatic 142, 3) := by decide +kernel
theorem dX12_passes_35 : decode cX12_passes 35 = .ok (.ifCond .ne 13, 3) := by decide +kernel
theorem dX12_passes_38 : decode cX12_passes 38 = .ok (.aload_n 0, 1) := by decide +kernel
theorem dX12_passes_39 : decode cX12_passes 39 = .ok (.iload 4, 2) := by decide +kernel
theorem dX12_passes_41 : decode cX12_passes 41 = .ok (.iconst 1, 1) := by decide +kernel
theorem dX12_passes_42 : decode cX12_passes 42 = .ok (.iadd, 1) := by decide +kernel
theorem dX12_passes_43 : decode cX12_passes 43 = .ok (.iaload, 1) := by decide +kernel
theorem dX12_passes_44 : decode cX12_passes 44 = .ok (.iload_n 2, 1) := by decide +kernel
theorem dX12_passes_45 : decode cX12_passes 45 = .ok (.if_icmp .ne 42, 3) := by decide +kernel
theorem dX12_passes_48 : decode cX12_passes 48 = .ok (.aload_n 0, 1) := by decide +kernel
theorem dX12_passes_49 : decode cX12_passes 49 = .ok (.iload 4, 2) := by decide +kernel
theorem dX12_passes_51 : decode cX12_passes 51 = .ok (.iconst 1, 1) := by decide +kernel
theorem dX12_passes_52 : decode cX12_passes 52 = .ok (.iadd, 1) := by decide +kernel
theorem dX12_passes_53 : decode cX12_passes 53 = .ok (.dup2, 1) := by decide +kernel
theorem dX12_passes_54 : decode cX12_passes 54 = .ok (.iaload, 1) := by decide +kernel
theorem dX12_passes_55 : decode cX12_passes 55 = .ok (.aload_n 0, 1) := by decide +kernel
theorem dX12_passes_56 : decode cX12_passes 56 = .ok (.iload 4, 2) := by decide +kernel
theorem dX12_passes_58 : decode cX12_passes 58 = .ok (.iconst 3, 1) := by decide +kernel
theorem dX12_passes_59 : decode cX12_passes 59 = .ok (.iadd, 1) := by decide +kernel
theorem dX12_passes_60 : decode cX12_passes 60 = .ok (.iaload, 1) := by decide +kernel
theorem dX12_passes_61 : decode cX12_passes 61 = .ok (.aload_n 0, 1) := by decide +kernel
theorem dX12_passes_62 : decode cX12_passes 62 = .ok (.iload 4, 2) := by decide +kernel
theorem dX12_passes_64 : decode cX12_passes 64 = .ok (.iconst 1, 1) := by decide +kernel
theorem dX12_passes_65 : decode cX12_passes 65 = .ok (.iadd, 1) := by decide +kernel
theorem dX12_passes_66 : decode cX12_passes 66 = .ok (.iaload, 1) := by decide +kernel
theorem dX12_passes_67 : decode cX12_passes 67 = .ok (.if_icmp .le 7, 3) := by decide +kernel
theorem dX12_passes_70 : decode cX12_passes 70 = .ok (.iconst 1, 1) := by decide +kernel
theorem dX12_passes_71 : decode cX12_passes 71 = .ok (.goto 4, 3) := by decide +kernel
theorem dX12_passes_74 : decode cX12_passes 74 = .ok (.iconst (-1), 1) := by decide +kernel
theorem dX12_passes_75 : decode cX12_passes 75 = .ok (.iadd, 1) := by decide +kernel
theorem dX12_passes_76 : decode cX12_passes 76 = .ok (.iastore, 1) := by decide +kernel
theorem dX12_passes_77 : decode cX12_passes 77 = .ok (.aload_n 0, 1) := by decide +kernel
theorem dX12_passes_78 : decode cX12_passes 78 = .ok (.iload 4, 2) := by decide +kernel
theorem dX12_passes_80 : decode cX12_passes 80 = .ok (.iconst 4, 1) := by decide +kernel
theorem dX12_passes_81 : decode cX12_passes 81 = .ok (.iadd, 1) := by decide +kernel
theorem dX12_passes_82 : decode cX12_passes 82 = .ok (.iconst 0, 1) := by decide +kernel
theorem dX12_passes_83 : decode cX12_passes 83 = .ok (.iastore, 1) := by decide +kernel
theorem dX12_passes_84 : decode cX12_passes 84 = .ok (.goto 28, 3) := by decide +kernel
theorem dX12_passes_87 : decode cX12_passes 87 = .ok (.aload_n 0, 1) := by decide +kernel
theorem dX12_passes_88 : decode cX12_passes 88 = .ok (.iload 4, 2) := by decide +kernel
theorem dX12_passes_90 : decode cX12_passes 90 = .ok (.iconst 4, 1) := by decide +kernel
theorem dX12_passes_91 : decode cX12_passes 91 = .ok (.iadd, 1) := by decide +kernel
theorem dX12_passes_92 : decode cX12_passes 92 = .ok (.dup2, 1) := by decide +kernel
theorem dX12_passes_93 : decode cX12_passes 93 = .ok (.iaload, 1) := by decide +kernel
theorem dX12_passes_94 : decode cX12_passes 94 = .ok (.aload_n 0, 1) := by decide +kernel
theorem dX12_passes_95 : decode cX12_passes 95 = .ok (.iload 4, 2) := by decide +kernel
theorem dX12_passes_97 : decode cX12_passes 97 = .ok (.iconst 4, 1) := by decide +kernel
theorem dX12_passes_98 : decode cX12_passes 98 = .ok (.iadd, 1) := by decide +kernel
theorem dX12_passes_99 : decode cX12_passes 99 = .ok (.iaload, 1) := by decide +kernel
theorem dX12_passes_100 : decode cX12_passes 100 = .ok (.bipush 99, 2) := by decide +kernel
theorem dX12_passes_102 : decode cX12_passes 102 = .ok (.if_icmp .ge 7, 3) := by decide +kernel
theorem dX12_passes_105 : decode cX12_passes 105 = .ok (.iconst 1, 1) := by decide +kernel
theorem dX12_passes_106 : decode cX12_passes 106 = .ok (.goto 4, 3) := by decide +kernel
theorem dX12_passes_109 : decode cX12_passes 109 = .ok (.iconst 0, 1) := by decide +kernel
theorem dX12_passes_110 : decode cX12_passes 110 = .ok (.iadd, 1) := by decide +kernel
theorem dX12_passes_111 : decode cX12_passes 111 = .ok (.iastore, 1) := by decide +kernel
theorem dX12_passes_112 : decode cX12_passes 112 = .ok (.iinc 3 1, 3) := by decide +kernel
theorem dX12_passes_115 : decode cX12_passes 115 = .ok (.goto (-107), 3) := by decide +kernel
theorem dX12_passes_118 : decode cX12_passes 118 = .ok (.aload_n 0, 1) := by decide +kernel
theorem dX12_passes_119 : decode cX12_passes 119 = .ok (.iconst 2, 1) := by decide +kernel
theorem dX12_passes_120 : decode cX12_passes 120 = .ok (.dup2, 1) := by decide +kernel
theorem dX12_passes_121 : decode cX12_passes 121 = .ok (.iaload, 1) := by decide +kernel
theorem dX12_passes_122 : decode cX12_passes 122 = .ok (.iconst 1, 1) := by decide +kernel
theorem dX12_passes_123 : decode cX12_passes 123 = .ok (.iadd, 1) := by decide +kernel
theorem dX12_passes_124 : decode cX12_passes 124 = .ok (.iastore, 1) := by decide +kernel
theorem dX12_passes_125 : decode cX12_passes 125 = .ok (.return_, 1) := by decide +kernel
theorem dX12_tries_0 : decode cX12_tries 0 = .ok (.aload_n 0, 1) := by decide +kernel
theorem dX12_tries_1 : decode cX12_tries 1 = .ok (.getfield 25, 3) := by decide +kernel
theorem dX12_tries_4 : decode cX12_tries 4 = .ok (.iconst 0, 1) := by decide +kernel
theorem dX12_tries_5 : decode cX12_tries 5 = .ok (.aload_n 0, 1) := by decide +kernel
theorem dX12_tries_6 : decode cX12_tries 6 = .ok (.getfield 31, 3) := by decide +kernel
theorem dX12_tries_9 : decode cX12_tries 9 = .ok (.iconst 0, 1) := by decide +kernel
theorem dX12_tries_10 : decode cX12_tries 10 = .ok (.invokestatic 128, 3) := by decide +kernel
theorem dX12_tries_13 : decode cX12_tries 13 = .ok (.iconst 0, 1) := by decide +kernel
theorem dX12_tries_14 : decode cX12_tries 14 = .ok (.istore_n 2, 1) := by decide +kernel
theorem dX12_tries_15 : decode cX12_tries 15 = .ok (.iload_n 2, 1) := by decide +kernel
theorem dX12_tries_16 : decode cX12_tries 16 = .ok (.iload_n 1, 1) := by decide +kernel
theorem dX12_tries_17 : decode cX12_tries 17 = .ok (.if_icmp .ge 17, 3) := by decide +kernel
theorem dX12_tries_20 : decode cX12_tries 20 = .ok (.aload_n 0, 1) := by decide +kernel
theorem dX12_tries_21 : decode cX12_tries 21 = .ok (.getfield 31, 3) := by decide +kernel
theorem dX12_tries_24 : decode cX12_tries 24 = .ok (.iconst 0, 1) := by decide +kernel
theorem dX12_tries_25 : decode cX12_tries 25 = .ok (.invokestatic 163, 3) := by decide +kernel
theorem dX12_tries_28 : decode cX12_tries 28 = .ok (.iinc 2 1, 3) := by decide +kernel
theorem dX12_tries_31 : decode cX12_tries 31 = .ok (.goto (-16), 3) := by decide +kernel
theorem dX12_tries_34 : decode cX12_tries 34 = .ok (.return_, 1) := by decide +kernel
theorem dX12_notes_0 : decode cX12_notes 0 = .ok (.aload_n 0, 1) := by decide +kernel
theorem dX12_notes_1 : decode cX12_notes 1 = .ok (.getfield 132, 3) := by decide +kernel
theorem dX12_notes_4 : decode cX12_notes 4 = .ok (.bipush 24, 2) := by decide +kernel
theorem dX12_notes_6 : decode cX12_notes 6 = .ok (.if_icmp .ne 43, 3) := by decide +kernel
theorem dX12_notes_9 : decode cX12_notes 9 = .ok (.iconst 0, 1) := by decide +kernel
theorem dX12_notes_10 : decode cX12_notes 10 = .ok (.istore_n 1, 1) := by decide +kernel
theorem dX12_notes_11 : decode cX12_notes 11 = .ok (.iload_n 1, 1) := by decide +kernel
theorem dX12_notes_12 : decode cX12_notes 12 = .ok (.sipush 782, 3) := by decide +kernel
theorem dX12_notes_15 : decode cX12_notes 15 = .ok (.if_icmp .ge 24, 3) := by decide +kernel
theorem dX12_notes_18 : decode cX12_notes 18 = .ok (.aload_n 0, 1) := by decide +kernel
theorem dX12_notes_19 : decode cX12_notes 19 = .ok (.getfield 34, 3) := by decide +kernel
theorem dX12_notes_22 : decode cX12_notes 22 = .ok (.iload_n 1, 1) := by decide +kernel
theorem dX12_notes_23 : decode cX12_notes 23 = .ok (.aload_n 0, 1) := by decide +kernel
theorem dX12_notes_24 : decode cX12_notes 24 = .ok (.getfield 34, 3) := by decide +kernel
theorem dX12_notes_27 : decode cX12_notes 27 = .ok (.iload_n 1, 1) := by decide +kernel
theorem dX12_notes_28 : decode cX12_notes 28 = .ok (.bipush 34, 2) := by decide +kernel
theorem dX12_notes_30 : decode cX12_notes 30 = .ok (.iadd, 1) := by decide +kernel
theorem dX12_notes_31 : decode cX12_notes 31 = .ok (.iaload, 1) := by decide +kernel
theorem dX12_notes_32 : decode cX12_notes 32 = .ok (.iastore, 1) := by decide +kernel
theorem dX12_notes_33 : decode cX12_notes 33 = .ok (.iinc 1 1, 3) := by decide +kernel
theorem dX12_notes_36 : decode cX12_notes 36 = .ok (.goto (-25), 3) := by decide +kernel
theorem dX12_notes_39 : decode cX12_notes 39 = .ok (.aload_n 0, 1) := by decide +kernel
theorem dX12_notes_40 : decode cX12_notes 40 = .ok (.dup, 1) := by decide +kernel
theorem dX12_notes_41 : decode cX12_notes 41 = .ok (.getfield 132, 3) := by decide +kernel
theorem dX12_notes_44 : decode cX12_notes 44 = .ok (.iconst 1, 1) := by decide +kernel
theorem dX12_notes_45 : decode cX12_notes 45 = .ok (.isub, 1) := by decide +kernel
theorem dX12_notes_46 : decode cX12_notes 46 = .ok (.putfield 132, 3) := by decide +kernel
theorem dX12_notes_49 : decode cX12_notes 49 = .ok (.aload_n 0, 1) := by decide +kernel
theorem dX12_notes_50 : decode cX12_notes 50 = .ok (.getfield 25, 3) := by decide +kernel
theorem dX12_notes_53 : decode cX12_notes 53 = .ok (.iconst 0, 1) := by decide +kernel
theorem dX12_notes_54 : decode cX12_notes 54 = .ok (.aload_n 0, 1) := by decide +kernel
theorem dX12_notes_55 : decode cX12_notes 55 = .ok (.getfield 34, 3) := by decide +kernel
theorem dX12_notes_58 : decode cX12_notes 58 = .ok (.bipush 34, 2) := by decide +kernel
theorem dX12_notes_60 : decode cX12_notes 60 = .ok (.aload_n 0, 1) := by decide +kernel
theorem dX12_notes_61 : decode cX12_notes 61 = .ok (.getfield 132, 3) := by decide +kernel
theorem dX12_notes_64 : decode cX12_notes 64 = .ok (.imul, 1) := by decide +kernel
theorem dX12_notes_65 : decode cX12_notes 65 = .ok (.invokestatic 128, 3) := by decide +kernel
theorem dX12_notes_68 : decode cX12_notes 68 = .ok (.aload_n 0, 1) := by decide +kernel
theorem dX12_notes_69 : decode cX12_notes 69 = .ok (.dup, 1) := by decide +kernel
theorem dX12_notes_70 : decode cX12_notes 70 = .ok (.getfield 132, 3) := by decide +kernel
theorem dX12_notes_73 : decode cX12_notes 73 = .ok (.iconst 1, 1) := by decide +kernel
theorem dX12_notes_74 : decode cX12_notes 74 = .ok (.iadd, 1) := by decide +kernel
theorem dX12_notes_75 : decode cX12_notes 75 = .ok (.putfield 132, 3) := by decide +kernel
theorem dX12_notes_78 : decode cX12_notes 78 = .ok (.return_, 1) := by decide +kernel
theorem dX12_minutes_0 : decode cX12_minutes 0 = .ok (.aload_n 0, 1) := by decide +kernel
theorem dX12_minutes_1 : decode cX12_minutes 1 = .ok (.invokevirtual 167, 3) := by decide +kernel
theorem dX12_minutes_4 : decode cX12_minutes 4 = .ok (.ifCond .ne 6, 3) := by decide +kernel
theorem dX12_minutes_7 : decode cX12_minutes 7 = .ok (.ldc 170, 2) := by decide +kernel
theorem dX12_minutes_9 : decode cX12_minutes 9 = .ok (.ireturn, 1) := by decide +kernel
theorem dX12_minutes_10 : decode cX12_minutes 10 = .ok (.iload_n 1, 1) := by decide +kernel
theorem dX12_minutes_11 : decode cX12_minutes 11 = .ok (.iconst 1, 1) := by decide +kernel
theorem dX12_minutes_12 : decode cX12_minutes 12 = .ok (.bipush 24, 2) := by decide +kernel
theorem dX12_minutes_14 : decode cX12_minutes 14 = .ok (.invokestatic 53, 3) := by decide +kernel
theorem dX12_minutes_17 : decode cX12_minutes 17 = .ok (.ifCond .ne 6, 3) := by decide +kernel
theorem dX12_minutes_20 : decode cX12_minutes 20 = .ok (.ldc 61, 2) := by decide +kernel
theorem dX12_minutes_22 : decode cX12_minutes 22 = .ok (.ireturn, 1) := by decide +kernel
theorem dX12_minutes_23 : decode cX12_minutes 23 = .ok (.aload_n 0, 1) := by decide +kernel
theorem dX12_minutes_24 : decode cX12_minutes 24 = .ok (.getfield 25, 3) := by decide +kernel
theorem dX12_minutes_27 : decode cX12_minutes 27 = .ok (.iconst 2, 1) := by decide +kernel
theorem dX12_minutes_28 : decode cX12_minutes 28 = .ok (.iaload, 1) := by decide +kernel
theorem dX12_minutes_29 : decode cX12_minutes 29 = .ok (.iload_n 1, 1) := by decide +kernel
theorem dX12_minutes_30 : decode cX12_minutes 30 = .ok (.iadd, 1) := by decide +kernel
theorem dX12_minutes_31 : decode cX12_minutes 31 = .ok (.sipush 999, 3) := by decide +kernel
theorem dX12_minutes_34 : decode cX12_minutes 34 = .ok (.if_icmp .le 6, 3) := by decide +kernel
theorem dX12_minutes_37 : decode cX12_minutes 37 = .ok (.ldc 82, 2) := by decide +kernel
theorem dX12_minutes_39 : decode cX12_minutes 39 = .ok (.ireturn, 1) := by decide +kernel
theorem dX12_minutes_40 : decode cX12_minutes 40 = .ok (.iconst 0, 1) := by decide +kernel
theorem dX12_minutes_41 : decode cX12_minutes 41 = .ok (.istore_n 2, 1) := by decide +kernel
theorem dX12_minutes_42 : decode cX12_minutes 42 = .ok (.iload_n 2, 1) := by decide +kernel
theorem dX12_minutes_43 : decode cX12_minutes 43 = .ok (.iload_n 1, 1) := by decide +kernel
theorem dX12_minutes_44 : decode cX12_minutes 44 = .ok (.if_icmp .ge 21, 3) := by decide +kernel
theorem dX12_minutes_47 : decode cX12_minutes 47 = .ok (.aload_n 0, 1) := by decide +kernel
theorem dX12_minutes_48 : decode cX12_minutes 48 = .ok (.invokevirtual 171, 3) := by decide +kernel
theorem dX12_minutes_51 : decode cX12_minutes 51 = .ok (.aload_n 0, 1) := by decide +kernel
theorem dX12_minutes_52 : decode cX12_minutes 52 = .ok (.getfield 25, 3) := by decide +kernel
theorem dX12_minutes_55 : decode cX12_minutes 55 = .ok (.iconst 0, 1) := by decide +kernel
theorem dX12_minutes_56 : decode cX12_minutes 56 = .ok (.invokestatic 163, 3) := by decide +kernel
theorem dX12_minutes_59 : decode cX12_minutes 59 = .ok (.iinc 2 1, 3) := by decide +kernel
theorem dX12_minutes_62 : decode cX12_minutes 62 = .ok (.goto (-20), 3) := by decide +kernel
theorem dX12_minutes_65 : decode cX12_minutes 65 = .ok (.aload_n 0, 1) := by decide +kernel
theorem dX12_minutes_66 : decode cX12_minutes 66 = .ok (.getfield 25, 3) := by decide +kernel
theorem dX12_minutes_69 : decode cX12_minutes 69 = .ok (.invokestatic 174, 3) := by decide +kernel
theorem dX12_minutes_72 : decode cX12_minutes 72 = .ok (.ireturn, 1) := by decide +kernel
theorem dX12_walk_0 : decode cX12_walk 0 = .ok (.aload_n 0, 1) := by decide +kernel
theorem dX12_walk_1 : decode cX12_walk 1 = .ok (.iload_n 1, 1) := by decide +kernel
theorem dX12_walk_2 : decode cX12_walk 2 = .ok (.invokevirtual 178, 3) := by decide +kernel
theorem dX12_walk_5 : decode cX12_walk 5 = .ok (.ifCond .eq 12, 3) := by decide +kernel
theorem dX12_walk_8 : decode cX12_walk 8 = .ok (.iload_n 2, 1) := by decide +kernel
theorem dX12_walk_9 : decode cX12_walk 9 = .ok (.iconst 0, 1) := by decide +kernel
theorem dX12_walk_10 : decode cX12_walk 10 = .ok (.iconst 1, 1) := by decide +kernel
theorem dX12_walk_11 : decode cX12_walk 11 = .ok (.invokestatic 53, 3) := by decide +kernel
theorem dX12_walk_14 : decode cX12_walk 14 = .ok (.ifCond .ne 6, 3) := by decide +kernel
theorem dX12_walk_17 : decode cX12_walk 17 = .ok (.ldc 61, 2) := by decide +kernel
theorem dX12_walk_19 : decode cX12_walk 19 = .ok (.ireturn, 1) := by decide +kernel
theorem dX12_walk_20 : decode cX12_walk 20 = .ok (.iconst 4, 1) := by decide +kernel
theorem dX12_walk_21 : decode cX12_walk 21 = .ok (.iconst 5, 1) := by decide +kernel
theorem dX12_walk_22 : decode cX12_walk 22 = .ok (.iload_n 1, 1) := by decide +kernel
theorem dX12_walk_23 : decode cX12_walk 23 = .ok (.imul, 1) := by decide +kernel
theorem dX12_walk_24 : decode cX12_walk 24 = .ok (.iadd, 1) := by decide +kernel
theorem dX12_walk_25 : decode cX12_walk 25 = .ok (.istore_n 3, 1) := by decide +kernel
theorem dX12_walk_26 : decode cX12_walk 26 = .ok (.aload_n 0, 1) := by decide +kernel
theorem dX12_walk_27 : decode cX12_walk 27 = .ok (.getfield 25, 3) := by decide +kernel
theorem dX12_walk_30 : decode cX12_walk 30 = .ok (.iload_n 3, 1) := by decide +kernel
theorem dX12_walk_31 : decode cX12_walk 31 = .ok (.iconst 1, 1) := by decide +kernel
theorem dX12_walk_32 : decode cX12_walk 32 = .ok (.iadd, 1) := by decide +kernel
theorem dX12_walk_33 : decode cX12_walk 33 = .ok (.iaload, 1) := by decide +kernel
theorem dX12_walk_34 : decode cX12_walk 34 = .ok (.iload_n 2, 1) := by decide +kernel
theorem dX12_walk_35 : decode cX12_walk 35 = .ok (.iconst 1, 1) := by decide +kernel
theorem dX12_walk_36 : decode cX12_walk 36 = .ok (.if_icmp .ne 7, 3) := by decide +kernel
theorem dX12_walk_39 : decode cX12_walk 39 = .ok (.iconst 1, 1) := by decide +kernel
theorem dX12_walk_40 : decode cX12_walk 40 = .ok (.goto 4, 3) := by decide +kernel
theorem dX12_walk_43 : decode cX12_walk 43 = .ok (.iconst (-1), 1) := by decide +kernel
theorem dX12_walk_44 : decode cX12_walk 44 = .ok (.iadd, 1) := by decide +kernel
theorem dX12_walk_45 : decode cX12_walk 45 = .ok (.istore 4, 2) := by decide +kernel
theorem dX12_walk_47 : decode cX12_walk 47 = .ok (.aload_n 0, 1) := by decide +kernel
theorem dX12_walk_48 : decode cX12_walk 48 = .ok (.iload 4, 2) := by decide +kernel
theorem dX12_walk_50 : decode cX12_walk 50 = .ok (.invokevirtual 181, 3) := by decide +kernel
theorem dX12_walk_53 : decode cX12_walk 53 = .ok (.ifCond .ne 6, 3) := by decide +kernel
theorem dX12_walk_56 : decode cX12_walk 56 = .ok (.ldc 170, 2) := by decide +kernel
theorem dX12_walk_58 : decode cX12_walk 58 = .ok (.ireturn, 1) := by decide +kernel
theorem dX12_walk_59 : decode cX12_walk 59 = .ok (.aload_n 0, 1) := by decide +kernel
theorem dX12_walk_60 : decode cX12_walk 60 = .ok (.invokevirtual 171, 3) := by decide +kernel
theorem dX12_walk_63 : decode cX12_walk 63 = .ok (.aload_n 0, 1) := by decide +kernel
theorem dX12_walk_64 : decode cX12_walk 64 = .ok (.getfield 25, 3) := by decide +kernel
theorem dX12_walk_67 : decode cX12_walk 67 = .ok (.iload_n 3, 1) := by decide +kernel
theorem dX12_walk_68 : decode cX12_walk 68 = .ok (.iconst 1, 1) := by decide +kernel
theorem dX12_walk_69 : decode cX12_walk 69 = .ok (.iadd, 1) := by decide +kernel
theorem dX12_walk_70 : decode cX12_walk 70 = .ok (.iload 4, 2) := by decide +kernel
theorem dX12_walk_72 : decode cX12_walk 72 = .ok (.iastore, 1) := by decide +kernel
theorem dX12_walk_73 : decode cX12_walk 73 = .ok (.aload_n 0, 1) := by decide +kernel
theorem dX12_walk_74 : decode cX12_walk 74 = .ok (.getfield 25, 3) := by decide +kernel
theorem dX12_walk_77 : decode cX12_walk 77 = .ok (.iload_n 3, 1) := by decide +kernel
theorem dX12_walk_78 : decode cX12_walk 78 = .ok (.iconst 4, 1) := by decide +kernel
theorem dX12_walk_79 : decode cX12_walk 79 = .ok (.iadd, 1) := by decide +kernel
theorem dX12_walk_80 : decode cX12_walk 80 = .ok (.iconst 0, 1) := by decide +kernel
theorem dX12_walk_81 : decode cX12_walk 81 = .ok (.iastore, 1) := by decide +kernel
theorem dX12_walk_82 : decode cX12_walk 82 = .ok (.iload 4, 2) := by decide +kernel
theorem dX12_walk_84 : decode cX12_walk 84 = .ok (.ireturn, 1) := by decide +kernel
theorem dX12_puts_0 : decode cX12_puts 0 = .ok (.aload_n 0, 1) := by decide +kernel
theorem dX12_puts_1 : decode cX12_puts 1 = .ok (.invokevirtual 171, 3) := by decide +kernel
theorem dX12_puts_4 : decode cX12_puts 4 = .ok (.aload_n 0, 1) := by decide +kernel
theorem dX12_puts_5 : decode cX12_puts 5 = .ok (.getfield 25, 3) := by decide +kernel
theorem dX12_puts_8 : decode cX12_puts 8 = .ok (.iload_n 1, 1) := by decide +kernel
theorem dX12_puts_9 : decode cX12_puts 9 = .ok (.iaload, 1) := by decide +kernel
theorem dX12_puts_10 : decode cX12_puts 10 = .ok (.istore_n 3, 1) := by decide +kernel
theorem dX12_puts_11 : decode cX12_puts 11 = .ok (.aload_n 0, 1) := by decide +kernel
theorem dX12_puts_12 : decode cX12_puts 12 = .ok (.getfield 25, 3) := by decide +kernel
theorem dX12_puts_15 : decode cX12_puts 15 = .ok (.iload_n 1, 1) := by decide +kernel
theorem dX12_puts_16 : decode cX12_puts 16 = .ok (.iload_n 2, 1) := by decide +kernel
theorem dX12_puts_17 : decode cX12_puts 17 = .ok (.iastore, 1) := by decide +kernel
theorem dX12_puts_18 : decode cX12_puts 18 = .ok (.iload_n 3, 1) := by decide +kernel
theorem dX12_puts_19 : decode cX12_puts 19 = .ok (.ireturn, 1) := by decide +kernel
theorem dX12_preach_0 : decode cX12_preach 0 = .ok (.aload_n 0, 1) := by decide +kernel
theorem dX12_preach_1 : decode cX12_preach 1 = .ok (.iload_n 1, 1) := by decide +kernel
theorem dX12_preach_2 : decode cX12_preach 2 = .ok (.invokevirtual 178, 3) := by decide +kernel
theorem dX12_preach_5 : decode cX12_preach 5 = .ok (.ifCond .eq 28, 3) := by decide +kernel
theorem dX12_preach_8 : decode cX12_preach 8 = .ok (.iload_n 2, 1) := by decide +kernel
theorem dX12_preach_9 : decode cX12_preach 9 = .ok (.iconst 0, 1) := by decide +kernel
theorem dX12_preach_10 : decode cX12_preach 10 = .ok (.bipush 20, 2) := by decide +kernel
theorem dX12_preach_12 : decode cX12_preach 12 = .ok (.invokestatic 53, 3) := by decide +kernel
theorem dX12_preach_15 : decode cX12_preach 15 = .ok (.ifCond .eq 18, 3) := by decide +kernel
theorem dX12_preach_18 : decode cX12_preach 18 = .ok (.aload_n 0, 1) := by decide +kernel
theorem dX12_preach_19 : decode cX12_preach 19 = .ok (.iconst 4, 1) := by decide +kernel
theorem dX12_preach_20 : decode cX12_preach 20 = .ok (.iconst 5, 1) := by decide +kernel
theorem dX12_preach_21 : decode cX12_preach 21 = .ok (.iload_n 1, 1) := by decide +kernel
theorem dX12_preach_22 : decode cX12_preach 22 = .ok (.imul, 1) := by decide +kernel
theorem dX12_preach_23 : decode cX12_preach 23 = .ok (.iadd, 1) := by decide +kernel
theorem dX12_preach_24 : decode cX12_preach 24 = .ok (.iconst 2, 1) := by decide +kernel
theorem dX12_preach_25 : decode cX12_preach 25 = .ok (.iadd, 1) := by decide +kernel
theorem dX12_preach_26 : decode cX12_preach 26 = .ok (.iload_n 2, 1) := by decide +kernel
theorem dX12_preach_27 : decode cX12_preach 27 = .ok (.invokevirtual 184, 3) := by decide +kernel
theorem dX12_preach_30 : decode cX12_preach 30 = .ok (.goto 5, 3) := by decide +kernel
theorem dX12_preach_33 : decode cX12_preach 33 = .ok (.ldc 61, 2) := by decide +kernel
theorem dX12_preach_35 : decode cX12_preach 35 = .ok (.ireturn, 1) := by decide +kernel
theorem dX12_wish_0 : decode cX12_wish 0 = .ok (.aload_n 0, 1) := by decide +kernel
theorem dX12_wish_1 : decode cX12_wish 1 = .ok (.iload_n 1, 1) := by decide +kernel
theorem dX12_wish_2 : decode cX12_wish 2 = .ok (.invokevirtual 178, 3) := by decide +kernel
theorem dX12_wish_5 : decode cX12_wish 5 = .ok (.ifCond .eq 26, 3) := by decide +kernel
theorem dX12_wish_8 : decode cX12_wish 8 = .ok (.aload_n 0, 1) := by decide +kernel
theorem dX12_wish_9 : decode cX12_wish 9 = .ok (.iload_n 2, 1) := by decide +kernel
theorem dX12_wish_10 : decode cX12_wish 10 = .ok (.invokevirtual 181, 3) := by decide +kernel
theorem dX12_wish_13 : decode cX12_wish 13 = .ok (.ifCond .eq 18, 3) := by decide +kernel
theorem dX12_wish_16 : decode cX12_wish 16 = .ok (.aload_n 0, 1) := by decide +kernel
theorem dX12_wish_17 : decode cX12_wish 17 = .ok (.iconst 4, 1) := by decide +kernel
theorem dX12_wish_18 : decode cX12_wish 18 = .ok (.iconst 5, 1) := by decide +kernel
theorem dX12_wish_19 : decode cX12_wish 19 = .ok (.iload_n 1, 1) := by decide +kernel
theorem dX12_wish_20 : decode cX12_wish 20 = .ok (.imul, 1) := by decide +kernel
theorem dX12_wish_21 : decode cX12_wish 21 = .ok (.iadd, 1) := by decide +kernel
theorem dX12_wish_22 : decode cX12_wish 22 = .ok (.iconst 3, 1) := by decide +kernel
theorem dX12_wish_23 : decode cX12_wish 23 = .ok (.iadd, 1) := by decide +kernel
theorem dX12_wish_24 : decode cX12_wish 24 = .ok (.iload_n 2, 1) := by decide +kernel
theorem dX12_wish_25 : decode cX12_wish 25 = .ok (.invokevirtual 184, 3) := by decide +kernel
theorem dX12_wish_28 : decode cX12_wish 28 = .ok (.goto 5, 3) := by decide +kernel
theorem dX12_wish_31 : decode cX12_wish 31 = .ok (.ldc 61, 2) := by decide +kernel
theorem dX12_wish_33 : decode cX12_wish 33 = .ok (.ireturn, 1) := by decide +kernel
theorem dX12_undo_0 : decode cX12_undo 0 = .ok (.aload_n 0, 1) := by decide +kernel
theorem dX12_undo_1 : decode cX12_undo 1 = .ok (.getfield 132, 3) := by decide +kernel
theorem dX12_undo_4 : decode cX12_undo 4 = .ok (.ifCond .ne 6, 3) := by decide +kernel
theorem dX12_undo_7 : decode cX12_undo 7 = .ok (.ldc 170, 2) := by decide +kernel
theorem dX12_undo_9 : decode cX12_undo 9 = .ok (.ireturn, 1) := by decide +kernel
theorem dX12_undo_10 : decode cX12_undo 10 = .ok (.aload_n 0, 1) := by decide +kernel
theorem dX12_undo_11 : decode cX12_undo 11 = .ok (.dup, 1) := by decide +kernel
theorem dX12_undo_12 : decode cX12_undo 12 = .ok (.getfield 132, 3) := by decide +kernel
theorem dX12_undo_15 : decode cX12_undo 15 = .ok (.iconst 1, 1) := by decide +kernel
theorem dX12_undo_16 : decode cX12_undo 16 = .ok (.isub, 1) := by decide +kernel
theorem dX12_undo_17 : decode cX12_undo 17 = .ok (.putfield 132, 3) := by decide +kernel
theorem dX12_undo_20 : decode cX12_undo 20 = .ok (.aload_n 0, 1) := by decide +kernel
theorem dX12_undo_21 : decode cX12_undo 21 = .ok (.getfield 34, 3) := by decide +kernel
theorem dX12_undo_24 : decode cX12_undo 24 = .ok (.bipush 34, 2) := by decide +kernel
theorem dX12_undo_26 : decode cX12_undo 26 = .ok (.aload_n 0, 1) := by decide +kernel
theorem dX12_undo_27 : decode cX12_undo 27 = .ok (.getfield 132, 3) := by decide +kernel
theorem dX12_undo_30 : decode cX12_undo 30 = .ok (.imul, 1) := by decide +kernel
theorem dX12_undo_31 : decode cX12_undo 31 = .ok (.aload_n 0, 1) := by decide +kernel
theorem dX12_undo_32 : decode cX12_undo 32 = .ok (.getfield 25, 3) := by decide +kernel
theorem dX12_undo_35 : decode cX12_undo 35 = .ok (.iconst 0, 1) := by decide +kernel
theorem dX12_undo_36 : decode cX12_undo 36 = .ok (.invokestatic 128, 3) := by decide +kernel
theorem dX12_undo_39 : decode cX12_undo 39 = .ok (.aload_n 0, 1) := by decide +kernel
theorem dX12_undo_40 : decode cX12_undo 40 = .ok (.getfield 132, 3) := by decide +kernel
theorem dX12_undo_43 : decode cX12_undo 43 = .ok (.ireturn, 1) := by decide +kernel
theorem dX12_person_0 : decode cX12_person 0 = .ok (.aload_n 0, 1) := by decide +kernel
theorem dX12_person_1 : decode cX12_person 1 = .ok (.iload_n 1, 1) := by decide +kernel
theorem dX12_person_2 : decode cX12_person 2 = .ok (.invokevirtual 178, 3) := by decide +kernel
theorem dX12_person_5 : decode cX12_person 5 = .ok (.ifCond .eq 12, 3) := by decide +kernel
theorem dX12_person_8 : decode cX12_person 8 = .ok (.iload_n 2, 1) := by decide +kernel
theorem dX12_person_9 : decode cX12_person 9 = .ok (.iconst 0, 1) := by decide +kernel
theorem dX12_person_10 : decode cX12_person 10 = .ok (.iconst 4, 1) := by decide +kernel
theorem dX12_person_11 : decode cX12_person 11 = .ok (.invokestatic 53, 3) := by decide +kernel
theorem dX12_person_14 : decode cX12_person 14 = .ok (.ifCond .ne 6, 3) := by decide +kernel
theorem dX12_person_17 : decode cX12_person 17 = .ok (.ldc 61, 2) := by decide +kernel
theorem dX12_person_19 : decode cX12_person 19 = .ok (.ireturn, 1) := by decide +kernel
theorem dX12_person_20 : decode cX12_person 20 = .ok (.iload_n 2, 1) := by decide +kernel
theorem dX12_person_21 : decode cX12_person 21 = .ok (.iconst 4, 1) := by decide +kernel
theorem dX12_person_22 : decode cX12_person 22 = .ok (.if_icmp .ne 14, 3) := by decide +kernel
theorem dX12_person_25 : decode cX12_person 25 = .ok (.aload_n 0, 1) := by decide +kernel
theorem dX12_person_26 : decode cX12_person 26 = .ok (.getfield 25, 3) := by decide +kernel
theorem dX12_person_29 : decode cX12_person 29 = .ok (.iload_n 1, 1) := by decide +kernel
theorem dX12_person_30 : decode cX12_person 30 = .ok (.invokestatic 146, 3) := by decide +kernel
theorem dX12_person_33 : decode cX12_person 33 = .ok (.goto 17, 3) := by decide +kernel
theorem dX12_person_36 : decode cX12_person 36 = .ok (.aload_n 0, 1) := by decide +kernel
theorem dX12_person_37 : decode cX12_person 37 = .ok (.getfield 25, 3) := by decide +kernel
theorem dX12_person_40 : decode cX12_person 40 = .ok (.iconst 4, 1) := by decide +kernel
theorem dX12_person_41 : decode cX12_person 41 = .ok (.iconst 5, 1) := by decide +kernel
theorem dX12_person_42 : decode cX12_person 42 = .ok (.iload_n 1, 1) := by decide +kernel
theorem dX12_person_43 : decode cX12_person 43 = .ok (.imul, 1) := by decide +kernel
theorem dX12_person_44 : decode cX12_person 44 = .ok (.iadd, 1) := by decide +kernel
theorem dX12_person_45 : decode cX12_person 45 = .ok (.iconst 1, 1) := by decide +kernel
theorem dX12_person_46 : decode cX12_person 46 = .ok (.iadd, 1) := by decide +kernel
theorem dX12_person_47 : decode cX12_person 47 = .ok (.iload_n 2, 1) := by decide +kernel
theorem dX12_person_48 : decode cX12_person 48 = .ok (.iadd, 1) := by decide +kernel
theorem dX12_person_49 : decode cX12_person 49 = .ok (.iaload, 1) := by decide +kernel
theorem dX12_person_50 : decode cX12_person 50 = .ok (.ireturn, 1) := by decide +kernel
theorem dX12_stop_0 : decode cX12_stop 0 = .ok (.aload_n 0, 1) := by decide +kernel
theorem dX12_stop_1 : decode cX12_stop 1 = .ok (.iload_n 1, 1) := by decide +kernel
theorem dX12_stop_2 : decode cX12_stop 2 = .ok (.invokevirtual 181, 3) := by decide +kernel
theorem dX12_stop_5 : decode cX12_stop 5 = .ok (.ifCond .eq 12, 3) := by decide +kernel
theorem dX12_stop_8 : decode cX12_stop 8 = .ok (.iload_n 2, 1) := by decide +kernel
theorem dX12_stop_9 : decode cX12_stop 9 = .ok (.iconst 0, 1) := by decide +kernel
theorem dX12_stop_10 : decode cX12_stop 10 = .ok (.iconst 1, 1) := by decide +kernel
theorem dX12_stop_11 : decode cX12_stop 11 = .ok (.invokestatic 53, 3) := by decide +kernel
theorem dX12_stop_14 : decode cX12_stop 14 = .ok (.ifCond .ne 6, 3) := by decide +kernel
theorem dX12_stop_17 : decode cX12_stop 17 = .ok (.ldc 61, 2) := by decide +kernel
theorem dX12_stop_19 : decode cX12_stop 19 = .ok (.ireturn, 1) := by decide +kernel
theorem dX12_stop_20 : decode cX12_stop 20 = .ok (.iload_n 2, 1) := by decide +kernel
theorem dX12_stop_21 : decode cX12_stop 21 = .ok (.ifCond .ne 15, 3) := by decide +kernel
theorem dX12_stop_24 : decode cX12_stop 24 = .ok (.aload_n 0, 1) := by decide +kernel
theorem dX12_stop_25 : decode cX12_stop 25 = .ok (.getfield 25, 3) := by decide +kernel
theorem dX12_stop_28 : decode cX12_stop 28 = .ok (.iload_n 1, 1) := by decide +kernel
theorem dX12_stop_29 : decode cX12_stop 29 = .ok (.iconst 0, 1) := by decide +kernel
theorem dX12_stop_30 : decode cX12_stop 30 = .ok (.invokestatic 149, 3) := by decide +kernel
theorem dX12_stop_33 : decode cX12_stop 33 = .ok (.goto 11, 3) := by decide +kernel
theorem dX12_stop_36 : decode cX12_stop 36 = .ok (.aload_n 0, 1) := by decide +kernel
theorem dX12_stop_37 : decode cX12_stop 37 = .ok (.getfield 25, 3) := by decide +kernel
theorem dX12_stop_40 : decode cX12_stop 40 = .ok (.iload_n 1, 1) := by decide +kernel
theorem dX12_stop_41 : decode cX12_stop 41 = .ok (.invokestatic 135, 3) := by decide +kernel
theorem dX12_stop_44 : decode cX12_stop 44 = .ok (.ireturn, 1) := by decide +kernel
theorem dX12_where_0 : decode cX12_where 0 = .ok (.aload_n 0, 1) := by decide +kernel
theorem dX12_where_1 : decode cX12_where 1 = .ok (.iload_n 1, 1) := by decide +kernel
theorem dX12_where_2 : decode cX12_where 2 = .ok (.invokevirtual 178, 3) := by decide +kernel
theorem dX12_where_5 : decode cX12_where 5 = .ok (.ifCond .eq 10, 3) := by decide +kernel
theorem dX12_where_8 : decode cX12_where 8 = .ok (.iload_n 2, 1) := by decide +kernel
theorem dX12_where_9 : decode cX12_where 9 = .ok (.invokestatic 187, 3) := by decide +kernel
theorem dX12_where_12 : decode cX12_where 12 = .ok (.ifCond .ne 6, 3) := by decide +kernel
theorem dX12_where_15 : decode cX12_where 15 = .ok (.ldc 61, 2) := by decide +kernel
theorem dX12_where_17 : decode cX12_where 17 = .ok (.ireturn, 1) := by decide +kernel
theorem dX12_where_18 : decode cX12_where 18 = .ok (.aload_n 0, 1) := by decide +kernel
theorem dX12_where_19 : decode cX12_where 19 = .ok (.iload_n 2, 1) := by decide +kernel
theorem dX12_where_20 : decode cX12_where 20 = .ok (.invokevirtual 190, 3) := by decide +kernel
theorem dX12_where_23 : decode cX12_where 23 = .ok (.aload_n 0, 1) := by decide +kernel
theorem dX12_where_24 : decode cX12_where 24 = .ok (.getfield 31, 3) := by decide +kernel
theorem dX12_where_27 : decode cX12_where 27 = .ok (.iconst 4, 1) := by decide +kernel
theorem dX12_where_28 : decode cX12_where 28 = .ok (.iconst 5, 1) := by decide +kernel
theorem dX12_where_29 : decode cX12_where 29 = .ok (.iload_n 1, 1) := by decide +kernel
theorem dX12_where_30 : decode cX12_where 30 = .ok (.imul, 1) := by decide +kernel
theorem dX12_where_31 : decode cX12_where 31 = .ok (.iadd, 1) := by decide +kernel
theorem dX12_where_32 : decode cX12_where 32 = .ok (.iconst 1, 1) := by decide +kernel
theorem dX12_where_33 : decode cX12_where 33 = .ok (.iadd, 1) := by decide +kernel
theorem dX12_where_34 : decode cX12_where 34 = .ok (.iaload, 1) := by decide +kernel
theorem dX12_where_35 : decode cX12_where 35 = .ok (.ireturn, 1) := by decide +kernel
theorem dX12_tram_0 : decode cX12_tram 0 = .ok (.aload_n 0, 1) := by decide +kernel
theorem dX12_tram_1 : decode cX12_tram 1 = .ok (.invokevirtual 167, 3) := by decide +kernel
theorem dX12_tram_4 : decode cX12_tram 4 = .ok (.ifCond .ne 6, 3) := by decide +kernel
theorem dX12_tram_7 : decode cX12_tram 7 = .ok (.ldc 170, 2) := by decide +kernel
theorem dX12_tram_9 : decode cX12_tram 9 = .ok (.ireturn, 1) := by decide +kernel
theorem dX12_tram_10 : decode cX12_tram 10 = .ok (.iload_n 1, 1) := by decide +kernel
theorem dX12_tram_11 : decode cX12_tram 11 = .ok (.invokestatic 187, 3) := by decide +kernel
theorem dX12_tram_14 : decode cX12_tram 14 = .ok (.ifCond .ne 6, 3) := by decide +kernel
theorem dX12_tram_17 : decode cX12_tram 17 = .ok (.ldc 61, 2) := by decide +kernel
theorem dX12_tram_19 : decode cX12_tram 19 = .ok (.ireturn, 1) := by decide +kernel
theorem dX12_tram_20 : decode cX12_tram 20 = .ok (.aload_n 0, 1) := by decide +kernel
theorem dX12_tram_21 : decode cX12_tram 21 = .ok (.iload_n 1, 1) := by decide +kernel
theorem dX12_tram_22 : decode cX12_tram 22 = .ok (.invokevirtual 190, 3) := by decide +kernel
theorem dX12_tram_25 : decode cX12_tram 25 = .ok (.aload_n 0, 1) := by decide +kernel
theorem dX12_tram_26 : decode cX12_tram 26 = .ok (.getfield 31, 3) := by decide +kernel
theorem dX12_tram_29 : decode cX12_tram 29 = .ok (.iconst 0, 1) := by decide +kernel
theorem dX12_tram_30 : decode cX12_tram 30 = .ok (.invokestatic 160, 3) := by decide +kernel
theorem dX12_tram_33 : decode cX12_tram 33 = .ok (.ireturn, 1) := by decide +kernel
theorem dX12_there_0 : decode cX12_there 0 = .ok (.aload_n 0, 1) := by decide +kernel
theorem dX12_there_1 : decode cX12_there 1 = .ok (.invokevirtual 167, 3) := by decide +kernel
theorem dX12_there_4 : decode cX12_there 4 = .ok (.ifCond .ne 6, 3) := by decide +kernel
theorem dX12_there_7 : decode cX12_there 7 = .ok (.ldc 170, 2) := by decide +kernel
theorem dX12_there_9 : decode cX12_there 9 = .ok (.ireturn, 1) := by decide +kernel
theorem dX12_there_10 : decode cX12_there 10 = .ok (.iload_n 1, 1) := by decide +kernel
theorem dX12_there_11 : decode cX12_there 11 = .ok (.invokestatic 187, 3) := by decide +kernel
theorem dX12_there_14 : decode cX12_there 14 = .ok (.ifCond .ne 6, 3) := by decide +kernel
theorem dX12_there_17 : decode cX12_there 17 = .ok (.ldc 61, 2) := by decide +kernel
theorem dX12_there_19 : decode cX12_there 19 = .ok (.ireturn, 1) := by decide +kernel
theorem dX12_there_20 : decode cX12_there 20 = .ok (.aload_n 0, 1) := by decide +kernel
theorem dX12_there_21 : decode cX12_there 21 = .ok (.iload_n 1, 1) := by decide +kernel
theorem dX12_there_22 : decode cX12_there 22 = .ok (.invokevirtual 190, 3) := by decide +kernel
theorem dX12_there_25 : decode cX12_there 25 = .ok (.aload_n 0, 1) := by decide +kernel
theorem dX12_there_26 : decode cX12_there 26 = .ok (.getfield 31, 3) := by decide +kernel
theorem dX12_there_29 : decode cX12_there 29 = .ok (.invokestatic 174, 3) := by decide +kernel
theorem dX12_there_32 : decode cX12_there 32 = .ok (.ireturn, 1) := by decide +kernel
theorem dX12_behind_0 : decode cX12_behind 0 = .ok (.iconst 0, 1) := by decide +kernel
theorem dX12_behind_1 : decode cX12_behind 1 = .ok (.istore 4, 2) := by decide +kernel
theorem dX12_behind_3 : decode cX12_behind 3 = .ok (.iload 4, 2) := by decide +kernel
theorem dX12_behind_5 : decode cX12_behind 5 = .ok (.iload_n 2, 1) := by decide +kernel
theorem dX12_behind_6 : decode cX12_behind 6 = .ok (.if_icmp .gt 33, 3) := by decide +kernel
theorem dX12_behind_9 : decode cX12_behind 9 = .ok (.aload_n 0, 1) := by decide +kernel
theorem dX12_behind_10 : decode cX12_behind 10 = .ok (.getfield 31, 3) := by decide +kernel
theorem dX12_behind_13 : decode cX12_behind 13 = .ok (.invokestatic 174, 3) := by decide +kernel
theorem dX12_behind_16 : decode cX12_behind 16 = .ok (.iload_n 1, 1) := by decide +kernel
theorem dX12_behind_17 : decode cX12_behind 17 = .ok (.iand, 1) := by decide +kernel
theorem dX12_behind_18 : decode cX12_behind 18 = .ok (.iload_n 1, 1) := by decide +kernel
theorem dX12_behind_19 : decode cX12_behind 19 = .ok (.if_icmp .ne 6, 3) := by decide +kernel
theorem dX12_behind_22 : decode cX12_behind 22 = .ok (.iload 4, 2) := by decide +kernel
theorem dX12_behind_24 : decode cX12_behind 24 = .ok (.ireturn, 1) := by decide +kernel
theorem dX12_behind_25 : decode cX12_behind 25 = .ok (.aload_n 0, 1) := by decide +kernel
theorem dX12_behind_26 : decode cX12_behind 26 = .ok (.getfield 31, 3) := by decide +kernel
theorem dX12_behind_29 : decode cX12_behind 29 = .ok (.iload_n 3, 1) := by decide +kernel
theorem dX12_behind_30 : decode cX12_behind 30 = .ok (.invokestatic 163, 3) := by decide +kernel
theorem dX12_behind_33 : decode cX12_behind 33 = .ok (.iinc 4 1, 3) := by decide +kernel
theorem dX12_behind_36 : decode cX12_behind 36 = .ok (.goto (-33), 3) := by decide +kernel
theorem dX12_behind_39 : decode cX12_behind 39 = .ok (.ldc 47, 2) := by decide +kernel
theorem dX12_behind_41 : decode cX12_behind 41 = .ok (.ireturn, 1) := by decide +kernel
theorem dX12_when_0 : decode cX12_when 0 = .ok (.aload_n 0, 1) := by decide +kernel
theorem dX12_when_1 : decode cX12_when 1 = .ok (.iload_n 1, 1) := by decide +kernel
theorem dX12_when_2 : decode cX12_when 2 = .ok (.invokevirtual 178, 3) := by decide +kernel
theorem dX12_when_5 : decode cX12_when 5 = .ok (.ifCond .ne 6, 3) := by decide +kernel
theorem dX12_when_8 : decode cX12_when 8 = .ok (.ldc 61, 2) := by decide +kernel
theorem dX12_when_10 : decode cX12_when 10 = .ok (.ireturn, 1) := by decide +kernel
theorem dX12_when_11 : decode cX12_when 11 = .ok (.aload_n 0, 1) := by decide +kernel
theorem dX12_when_12 : decode cX12_when 12 = .ok (.iconst 0, 1) := by decide +kernel
theorem dX12_when_13 : decode cX12_when 13 = .ok (.invokevirtual 190, 3) := by decide +kernel
theorem dX12_when_16 : decode cX12_when 16 = .ok (.aload_n 0, 1) := by decide +kernel
theorem dX12_when_17 : decode cX12_when 17 = .ok (.iconst 1, 1) := by decide +kernel
theorem dX12_when_18 : decode cX12_when 18 = .ok (.iload_n 1, 1) := by decide +kernel
theorem dX12_when_19 : decode cX12_when 19 = .ok (.ishl, 1) := by decide +kernel
theorem dX12_when_20 : decode cX12_when 20 = .ok (.bipush 60, 2) := by decide +kernel
theorem dX12_when_22 : decode cX12_when 22 = .ok (.iconst 0, 1) := by decide +kernel
theorem dX12_when_23 : decode cX12_when 23 = .ok (.invokevirtual 194, 3) := by decide +kernel
theorem dX12_when_26 : decode cX12_when 26 = .ok (.ireturn, 1) := by decide +kernel
theorem dX12_all_0 : decode cX12_all 0 = .ok (.aload_n 0, 1) := by decide +kernel
theorem dX12_all_1 : decode cX12_all 1 = .ok (.invokevirtual 167, 3) := by decide +kernel
theorem dX12_all_4 : decode cX12_all 4 = .ok (.ifCond .ne 6, 3) := by decide +kernel
theorem dX12_all_7 : decode cX12_all 7 = .ok (.ldc 170, 2) := by decide +kernel
theorem dX12_all_9 : decode cX12_all 9 = .ok (.ireturn, 1) := by decide +kernel
theorem dX12_all_10 : decode cX12_all 10 = .ok (.aload_n 0, 1) := by decide +kernel
theorem dX12_all_11 : decode cX12_all 11 = .ok (.iconst 0, 1) := by decide +kernel
theorem dX12_all_12 : decode cX12_all 12 = .ok (.invokevirtual 190, 3) := by decide +kernel
theorem dX12_all_15 : decode cX12_all 15 = .ok (.aload_n 0, 1) := by decide +kernel
theorem dX12_all_16 : decode cX12_all 16 = .ok (.aload_n 0, 1) := by decide +kernel
theorem dX12_all_17 : decode cX12_all 17 = .ok (.getfield 25, 3) := by decide +kernel
theorem dX12_all_20 : decode cX12_all 20 = .ok (.invokestatic 198, 3) := by decide +kernel
theorem dX12_all_23 : decode cX12_all 23 = .ok (.bipush 60, 2) := by decide +kernel
theorem dX12_all_25 : decode cX12_all 25 = .ok (.iconst 0, 1) := by decide +kernel
theorem dX12_all_26 : decode cX12_all 26 = .ok (.invokevirtual 194, 3) := by decide +kernel
theorem dX12_all_29 : decode cX12_all 29 = .ok (.ireturn, 1) := by decide +kernel
theorem dX12_never_0 : decode cX12_never 0 = .ok (.aload_n 0, 1) := by decide +kernel
theorem dX12_never_1 : decode cX12_never 1 = .ok (.invokevirtual 167, 3) := by decide +kernel
theorem dX12_never_4 : decode cX12_never 4 = .ok (.ifCond .ne 6, 3) := by decide +kernel
theorem dX12_never_7 : decode cX12_never 7 = .ok (.ldc 170, 2) := by decide +kernel
theorem dX12_never_9 : decode cX12_never 9 = .ok (.ireturn, 1) := by decide +kernel
theorem dX12_never_10 : decode cX12_never 10 = .ok (.aload_n 0, 1) := by decide +kernel
theorem dX12_never_11 : decode cX12_never 11 = .ok (.iconst 0, 1) := by decide +kernel
theorem dX12_never_12 : decode cX12_never 12 = .ok (.invokevirtual 190, 3) := by decide +kernel
theorem dX12_never_15 : decode cX12_never 15 = .ok (.iconst 0, 1) := by decide +kernel
theorem dX12_never_16 : decode cX12_never 16 = .ok (.istore_n 1, 1) := by decide +kernel
theorem dX12_never_17 : decode cX12_never 17 = .ok (.iconst 0, 1) := by decide +kernel
theorem dX12_never_18 : decode cX12_never 18 = .ok (.istore_n 2, 1) := by decide +kernel
theorem dX12_never_19 : decode cX12_never 19 = .ok (.iload_n 2, 1) := by decide +kernel
theorem dX12_never_20 : decode cX12_never 20 = .ok (.bipush 61, 2) := by decide +kernel
theorem dX12_never_22 : decode cX12_never 22 = .ok (.if_icmp .ge 27, 3) := by decide +kernel
theorem dX12_never_25 : decode cX12_never 25 = .ok (.iload_n 1, 1) := by decide +kernel
theorem dX12_never_26 : decode cX12_never 26 = .ok (.aload_n 0, 1) := by decide +kernel
theorem dX12_never_27 : decode cX12_never 27 = .ok (.getfield 31, 3) := by decide +kernel
theorem dX12_never_30 : decode cX12_never 30 = .ok (.invokestatic 174, 3) := by decide +kernel
theorem dX12_never_33 : decode cX12_never 33 = .ok (.ior, 1) := by decide +kernel
theorem dX12_never_34 : decode cX12_never 34 = .ok (.istore_n 1, 1) := by decide +kernel
theorem dX12_never_35 : decode cX12_never 35 = .ok (.aload_n 0, 1) := by decide +kernel
theorem dX12_never_36 : decode cX12_never 36 = .ok (.getfield 31, 3) := by decide +kernel
theorem dX12_never_39 : decode cX12_never 39 = .ok (.iconst 0, 1) := by decide +kernel
theorem dX12_never_40 : decode cX12_never 40 = .ok (.invokestatic 163, 3) := by decide +kernel
theorem dX12_never_43 : decode cX12_never 43 = .ok (.iinc 2 1, 3) := by decide +kernel
theorem dX12_never_46 : decode cX12_never 46 = .ok (.goto (-27), 3) := by decide +kernel
theorem dX12_never_49 : decode cX12_never 49 = .ok (.aload_n 0, 1) := by decide +kernel
theorem dX12_never_50 : decode cX12_never 50 = .ok (.getfield 25, 3) := by decide +kernel
theorem dX12_never_53 : decode cX12_never 53 = .ok (.invokestatic 198, 3) := by decide +kernel
theorem dX12_never_56 : decode cX12_never 56 = .ok (.iload_n 1, 1) := by decide +kernel
theorem dX12_never_57 : decode cX12_never 57 = .ok (.iconst (-1), 1) := by decide +kernel
theorem dX12_never_58 : decode cX12_never 58 = .ok (.ixor, 1) := by decide +kernel
theorem dX12_never_59 : decode cX12_never 59 = .ok (.iand, 1) := by decide +kernel
theorem dX12_never_60 : decode cX12_never 60 = .ok (.ireturn, 1) := by decide +kernel
theorem dX12_holding_0 : decode cX12_holding 0 = .ok (.aload_n 0, 1) := by decide +kernel
theorem dX12_holding_1 : decode cX12_holding 1 = .ok (.invokevirtual 167, 3) := by decide +kernel
theorem dX12_holding_4 : decode cX12_holding 4 = .ok (.ifCond .ne 6, 3) := by decide +kernel
theorem dX12_holding_7 : decode cX12_holding 7 = .ok (.ldc 170, 2) := by decide +kernel
theorem dX12_holding_9 : decode cX12_holding 9 = .ok (.ireturn, 1) := by decide +kernel
theorem dX12_holding_10 : decode cX12_holding 10 = .ok (.iconst 0, 1) := by decide +kernel
theorem dX12_holding_11 : decode cX12_holding 11 = .ok (.istore_n 1, 1) := by decide +kernel
theorem dX12_holding_12 : decode cX12_holding 12 = .ok (.iconst 0, 1) := by decide +kernel
theorem dX12_holding_13 : decode cX12_holding 13 = .ok (.istore_n 2, 1) := by decide +kernel
theorem dX12_holding_14 : decode cX12_holding 14 = .ok (.iload_n 2, 1) := by decide +kernel
theorem dX12_holding_15 : decode cX12_holding 15 = .ok (.aload_n 0, 1) := by decide +kernel
theorem dX12_holding_16 : decode cX12_holding 16 = .ok (.getfield 25, 3) := by decide +kernel
theorem dX12_holding_19 : decode cX12_holding 19 = .ok (.iconst 0, 1) := by decide +kernel
theorem dX12_holding_20 : decode cX12_holding 20 = .ok (.iaload, 1) := by decide +kernel
theorem dX12_holding_21 : decode cX12_holding 21 = .ok (.if_icmp .ge 38, 3) := by decide +kernel
theorem dX12_holding_24 : decode cX12_holding 24 = .ok (.iload_n 1, 1) := by decide +kernel
theorem dX12_holding_25 : decode cX12_holding 25 = .ok (.aload_n 0, 1) := by decide +kernel
theorem dX12_holding_26 : decode cX12_holding 26 = .ok (.getfield 25, 3) := by decide +kernel
theorem dX12_holding_29 : decode cX12_holding 29 = .ok (.aload_n 0, 1) := by decide +kernel
theorem dX12_holding_30 : decode cX12_holding 30 = .ok (.getfield 25, 3) := by decide +kernel
theorem dX12_holding_33 : decode cX12_holding 33 = .ok (.iload_n 2, 1) := by decide +kernel
theorem dX12_holding_34 : decode cX12_holding 34 = .ok (.iconst 0, 1) := by decide +kernel
theorem dX12_holding_35 : decode cX12_holding 35 = .ok (.invokestatic 149, 3) := by decide +kernel
theorem dX12_holding_38 : decode cX12_holding 38 = .ok (.invokestatic 153, 3) := by decide +kernel
theorem dX12_holding_41 : decode cX12_holding 41 = .ok (.ifCond .eq 9, 3) := by decide +kernel
theorem dX12_holding_44 : decode cX12_holding 44 = .ok (.iconst 1, 1) := by decide +kernel
theorem dX12_holding_45 : decode cX12_holding 45 = .ok (.iload_n 2, 1) := by decide +kernel
theorem dX12_holding_46 : decode cX12_holding 46 = .ok (.ishl, 1) := by decide +kernel
theorem dX12_holding_47 : decode cX12_holding 47 = .ok (.goto 4, 3) := by decide +kernel
theorem dX12_holding_50 : decode cX12_holding 50 = .ok (.iconst 0, 1) := by decide +kernel
theorem dX12_holding_51 : decode cX12_holding 51 = .ok (.ior, 1) := by decide +kernel
theorem dX12_holding_52 : decode cX12_holding 52 = .ok (.istore_n 1, 1) := by decide +kernel
theorem dX12_holding_53 : decode cX12_holding 53 = .ok (.iinc 2 1, 3) := by decide +kernel
theorem dX12_holding_56 : decode cX12_holding 56 = .ok (.goto (-42), 3) := by decide +kernel
theorem dX12_holding_59 : decode cX12_holding 59 = .ok (.iload_n 1, 1) := by decide +kernel
theorem dX12_holding_60 : decode cX12_holding 60 = .ok (.ireturn, 1) := by decide +kernel
theorem dX12_call_0 : decode cX12_call 0 = .ok (.aload_n 0, 1) := by decide +kernel
theorem dX12_call_1 : decode cX12_call 1 = .ok (.iload_n 1, 1) := by decide +kernel
theorem dX12_call_2 : decode cX12_call 2 = .ok (.invokevirtual 181, 3) := by decide +kernel
theorem dX12_call_5 : decode cX12_call 5 = .ok (.ifCond .eq 12, 3) := by decide +kernel
theorem dX12_call_8 : decode cX12_call 8 = .ok (.iload_n 2, 1) := by decide +kernel
theorem dX12_call_9 : decode cX12_call 9 = .ok (.iconst 0, 1) := by decide +kernel
theorem dX12_call_10 : decode cX12_call 10 = .ok (.iconst 1, 1) := by decide +kernel
theorem dX12_call_11 : decode cX12_call 11 = .ok (.invokestatic 53, 3) := by decide +kernel
theorem dX12_call_14 : decode cX12_call 14 = .ok (.ifCond .ne 6, 3) := by decide +kernel
theorem dX12_call_17 : decode cX12_call 17 = .ok (.ldc 61, 2) := by decide +kernel
theorem dX12_call_19 : decode cX12_call 19 = .ok (.ireturn, 1) := by decide +kernel
theorem dX12_call_20 : decode cX12_call 20 = .ok (.iconst 0, 1) := by decide +kernel
theorem dX12_call_21 : decode cX12_call 21 = .ok (.istore_n 3, 1) := by decide +kernel
theorem dX12_call_22 : decode cX12_call 22 = .ok (.iload_n 3, 1) := by decide +kernel
theorem dX12_call_23 : decode cX12_call 23 = .ok (.bipush 41, 2) := by decide +kernel
theorem dX12_call_25 : decode cX12_call 25 = .ok (.if_icmp .ge 91, 3) := by decide +kernel
theorem dX12_call_28 : decode cX12_call 28 = .ok (.iconst 0, 1) := by decide +kernel
theorem dX12_call_29 : decode cX12_call 29 = .ok (.istore 4, 2) := by decide +kernel
theorem dX12_call_31 : decode cX12_call 31 = .ok (.iload 4, 2) := by decide +kernel
theorem dX12_call_33 : decode cX12_call 33 = .ok (.aload_n 0, 1) := by decide +kernel
theorem dX12_call_34 : decode cX12_call 34 = .ok (.getfield 25, 3) := by decide +kernel
theorem dX12_call_37 : decode cX12_call 37 = .ok (.iconst 3, 1) := by decide +kernel
theorem dX12_call_38 : decode cX12_call 38 = .ok (.iaload, 1) := by decide +kernel
theorem dX12_call_39 : decode cX12_call 39 = .ok (.if_icmp .ge 71, 3) := by decide +kernel
theorem dX12_call_42 : decode cX12_call 42 = .ok (.aload_n 0, 1) := by decide +kernel
theorem dX12_call_43 : decode cX12_call 43 = .ok (.getfield 25, 3) := by decide +kernel
theorem dX12_call_46 : decode cX12_call 46 = .ok (.iconst 4, 1) := by decide +kernel
theorem dX12_call_47 : decode cX12_call 47 = .ok (.iconst 5, 1) := by decide +kernel
theorem dX12_call_48 : decode cX12_call 48 = .ok (.iload 4, 2) := by decide +kernel
theorem dX12_call_50 : decode cX12_call 50 = .ok (.imul, 1) := by decide +kernel
theorem dX12_call_51 : decode cX12_call 51 = .ok (.iadd, 1) := by decide +kernel
theorem dX12_call_52 : decode cX12_call 52 = .ok (.iconst 1, 1) := by decide +kernel
theorem dX12_call_53 : decode cX12_call 53 = .ok (.iadd, 1) := by decide +kernel
theorem dX12_call_54 : decode cX12_call 54 = .ok (.iaload, 1) := by decide +kernel
theorem dX12_call_55 : decode cX12_call 55 = .ok (.iload_n 1, 1) := by decide +kernel
theorem dX12_call_56 : decode cX12_call 56 = .ok (.if_icmp .ne 48, 3) := by decide +kernel
theorem dX12_call_59 : decode cX12_call 59 = .ok (.aload_n 0, 1) := by decide +kernel
theorem dX12_call_60 : decode cX12_call 60 = .ok (.iconst 0, 1) := by decide +kernel
theorem dX12_call_61 : decode cX12_call 61 = .ok (.invokevirtual 190, 3) := by decide +kernel
theorem dX12_call_64 : decode cX12_call 64 = .ok (.aload_n 0, 1) := by decide +kernel
theorem dX12_call_65 : decode cX12_call 65 = .ok (.getfield 31, 3) := by decide +kernel
theorem dX12_call_68 : decode cX12_call 68 = .ok (.iconst 4, 1) := by decide +kernel
theorem dX12_call_69 : decode cX12_call 69 = .ok (.iconst 5, 1) := by decide +kernel
theorem dX12_call_70 : decode cX12_call 70 = .ok (.iload 4, 2) := by decide +kernel
theorem dX12_call_72 : decode cX12_call 72 = .ok (.imul, 1) := by decide +kernel
theorem dX12_call_73 : decode cX12_call 73 = .ok (.iadd, 1) := by decide +kernel
theorem dX12_call_74 : decode cX12_call 74 = .ok (.iconst 2, 1) := by decide +kernel
theorem dX12_call_75 : decode cX12_call 75 = .ok (.iadd, 1) := by decide +kernel
theorem dX12_call_76 : decode cX12_call 76 = .ok (.dup2, 1) := by decide +kernel
theorem dX12_call_77 : decode cX12_call 77 = .ok (.iaload, 1) := by decide +kernel
theorem dX12_call_78 : decode cX12_call 78 = .ok (.iload_n 3, 1) := by decide +kernel
theorem dX12_call_79 : decode cX12_call 79 = .ok (.iadd, 1) := by decide +kernel
theorem dX12_call_80 : decode cX12_call 80 = .ok (.iastore, 1) := by decide +kernel
theorem dX12_call_81 : decode cX12_call 81 = .ok (.aload_n 0, 1) := by decide +kernel
theorem dX12_call_82 : decode cX12_call 82 = .ok (.getfield 31, 3) := by decide +kernel
theorem dX12_call_85 : decode cX12_call 85 = .ok (.iconst 0, 1) := by decide +kernel
theorem dX12_call_86 : decode cX12_call 86 = .ok (.invokestatic 160, 3) := by decide +kernel
theorem dX12_call_89 : decode cX12_call 89 = .ok (.iload_n 1, 1) := by decide +kernel
theorem dX12_call_90 : decode cX12_call 90 = .ok (.if_icmp .ne 14, 3) := by decide +kernel
theorem dX12_call_93 : decode cX12_call 93 = .ok (.iload_n 2, 1) := by decide +kernel
theorem dX12_call_94 : decode cX12_call 94 = .ok (.ifCond .ne 7, 3) := by decide +kernel
theorem dX12_call_97 : decode cX12_call 97 = .ok (.iload_n 3, 1) := by decide +kernel
theorem dX12_call_98 : decode cX12_call 98 = .ok (.goto 5, 3) := by decide +kernel
theorem dX12_call_101 : decode cX12_call 101 = .ok (.iload 4, 2) := by decide +kernel
theorem dX12_call_103 : decode cX12_call 103 = .ok (.ireturn, 1) := by decide +kernel
theorem dX12_call_104 : decode cX12_call 104 = .ok (.iinc 4 1, 3) := by decide +kernel
theorem dX12_call_107 : decode cX12_call 107 = .ok (.goto (-76), 3) := by decide +kernel
theorem dX12_call_110 : decode cX12_call 110 = .ok (.iinc 3 1, 3) := by decide +kernel
theorem dX12_call_113 : decode cX12_call 113 = .ok (.goto (-91), 3) := by decide +kernel
theorem dX12_call_116 : decode cX12_call 116 = .ok (.ldc 47, 2) := by decide +kernel
theorem dX12_call_118 : decode cX12_call 118 = .ok (.ireturn, 1) := by decide +kernel
theorem dX12_go_0 : decode cX12_go 0 = .ok (.aload_n 0, 1) := by decide +kernel
theorem dX12_go_1 : decode cX12_go 1 = .ok (.iload_n 1, 1) := by decide +kernel
theorem dX12_go_2 : decode cX12_go 2 = .ok (.invokevirtual 178, 3) := by decide +kernel
theorem dX12_go_5 : decode cX12_go 5 = .ok (.ifCond .eq 12, 3) := by decide +kernel
theorem dX12_go_8 : decode cX12_go 8 = .ok (.iload_n 2, 1) := by decide +kernel
theorem dX12_go_9 : decode cX12_go 9 = .ok (.iconst 0, 1) := by decide +kernel
theorem dX12_go_10 : decode cX12_go 10 = .ok (.iconst 1, 1) := by decide +kernel
theorem dX12_go_11 : decode cX12_go 11 = .ok (.invokestatic 53, 3) := by decide +kernel
theorem dX12_go_14 : decode cX12_go 14 = .ok (.ifCond .ne 6, 3) := by decide +kernel
theorem dX12_go_17 : decode cX12_go 17 = .ok (.ldc 61, 2) := by decide +kernel
theorem dX12_go_19 : decode cX12_go 19 = .ok (.ireturn, 1) := by decide +kernel
theorem dX12_go_20 : decode cX12_go 20 = .ok (.iconst 4, 1) := by decide +kernel
theorem dX12_go_21 : decode cX12_go 21 = .ok (.iconst 5, 1) := by decide +kernel
theorem dX12_go_22 : decode cX12_go 22 = .ok (.iload_n 1, 1) := by decide +kernel
theorem dX12_go_23 : decode cX12_go 23 = .ok (.imul, 1) := by decide +kernel
theorem dX12_go_24 : decode cX12_go 24 = .ok (.iadd, 1) := by decide +kernel
theorem dX12_go_25 : decode cX12_go 25 = .ok (.istore_n 3, 1) := by decide +kernel
theorem dX12_go_26 : decode cX12_go 26 = .ok (.ldc 47, 2) := by decide +kernel
theorem dX12_go_28 : decode cX12_go 28 = .ok (.istore 4, 2) := by decide +kernel
theorem dX12_go_30 : decode cX12_go 30 = .ok (.ldc 47, 2) := by decide +kernel
theorem dX12_go_32 : decode cX12_go 32 = .ok (.istore 5, 2) := by decide +kernel
theorem dX12_go_34 : decode cX12_go 34 = .ok (.iconst 0, 1) := by decide +kernel
theorem dX12_go_35 : decode cX12_go 35 = .ok (.istore 6, 2) := by decide +kernel
theorem dX12_go_37 : decode cX12_go 37 = .ok (.iload 6, 2) := by decide +kernel
theorem dX12_go_39 : decode cX12_go 39 = .ok (.aload_n 0, 1) := by decide +kernel
theorem dX12_go_40 : decode cX12_go 40 = .ok (.getfield 25, 3) := by decide +kernel
theorem dX12_go_43 : decode cX12_go 43 = .ok (.iconst 0, 1) := by decide +kernel
theorem dX12_go_44 : decode cX12_go 44 = .ok (.iaload, 1) := by decide +kernel
theorem dX12_go_45 : decode cX12_go 45 = .ok (.if_icmp .ge 138, 3) := by decide +kernel
theorem dX12_go_48 : decode cX12_go 48 = .ok (.iload 6, 2) := by decide +kernel
theorem dX12_go_50 : decode cX12_go 50 = .ok (.aload_n 0, 1) := by decide +kernel
theorem dX12_go_51 : decode cX12_go 51 = .ok (.getfield 25, 3) := by decide +kernel
theorem dX12_go_54 : decode cX12_go 54 = .ok (.iload_n 3, 1) := by decide +kernel
theorem dX12_go_55 : decode cX12_go 55 = .ok (.iconst 3, 1) := by decide +kernel
theorem dX12_go_56 : decode cX12_go 56 = .ok (.iadd, 1) := by decide +kernel
theorem dX12_go_57 : decode cX12_go 57 = .ok (.iaload, 1) := by decide +kernel
theorem dX12_go_58 : decode cX12_go 58 = .ok (.if_icmp .eq 119, 3) := by decide +kernel
theorem dX12_go_61 : decode cX12_go 61 = .ok (.aload_n 0, 1) := by decide +kernel
theorem dX12_go_62 : decode cX12_go 62 = .ok (.iconst 0, 1) := by decide +kernel
theorem dX12_go_63 : decode cX12_go 63 = .ok (.invokevirtual 190, 3) := by decide +kernel
theorem dX12_go_66 : decode cX12_go 66 = .ok (.aload_n 0, 1) := by decide +kernel
theorem dX12_go_67 : decode cX12_go 67 = .ok (.getfield 31, 3) := by decide +kernel
theorem dX12_go_70 : decode cX12_go 70 = .ok (.iload_n 3, 1) := by decide +kernel
theorem dX12_go_71 : decode cX12_go 71 = .ok (.iconst 4, 1) := by decide +kernel
theorem dX12_go_72 : decode cX12_go 72 = .ok (.iadd, 1) := by decide +kernel
theorem dX12_go_73 : decode cX12_go 73 = .ok (.iload 6, 2) := by decide +kernel
theorem dX12_go_75 : decode cX12_go 75 = .ok (.aload_n 0, 1) := by decide +kernel
theorem dX12_go_76 : decode cX12_go 76 = .ok (.getfield 25, 3) := by decide +kernel
theorem dX12_go_79 : decode cX12_go 79 = .ok (.iload_n 3, 1) := by decide +kernel
theorem dX12_go_80 : decode cX12_go 80 = .ok (.iconst 1, 1) := by decide +kernel
theorem dX12_go_81 : decode cX12_go 81 = .ok (.iadd, 1) := by decide +kernel
theorem dX12_go_82 : decode cX12_go 82 = .ok (.iaload, 1) := by decide +kernel
theorem dX12_go_83 : decode cX12_go 83 = .ok (.if_icmp .ne 14, 3) := by decide +kernel
theorem dX12_go_86 : decode cX12_go 86 = .ok (.aload_n 0, 1) := by decide +kernel
theorem dX12_go_87 : decode cX12_go 87 = .ok (.getfield 25, 3) := by decide +kernel
theorem dX12_go_90 : decode cX12_go 90 = .ok (.iload_n 3, 1) := by decide +kernel
theorem dX12_go_91 : decode cX12_go 91 = .ok (.iconst 4, 1) := by decide +kernel
theorem dX12_go_92 : decode cX12_go 92 = .ok (.iadd, 1) := by decide +kernel
theorem dX12_go_93 : decode cX12_go 93 = .ok (.iaload, 1) := by decide +kernel
theorem dX12_go_94 : decode cX12_go 94 = .ok (.goto 4, 3) := by decide +kernel
theorem dX12_go_97 : decode cX12_go 97 = .ok (.iconst 0, 1) := by decide +kernel
theorem dX12_go_98 : decode cX12_go 98 = .ok (.iastore, 1) := by decide +kernel
theorem dX12_go_99 : decode cX12_go 99 = .ok (.aload_n 0, 1) := by decide +kernel
theorem dX12_go_100 : decode cX12_go 100 = .ok (.getfield 31, 3) := by decide +kernel
theorem dX12_go_103 : decode cX12_go 103 = .ok (.iload_n 3, 1) := by decide +kernel
theorem dX12_go_104 : decode cX12_go 104 = .ok (.iconst 1, 1) := by decide +kernel
theorem dX12_go_105 : decode cX12_go 105 = .ok (.iadd, 1) := by decide +kernel
theorem dX12_go_106 : decode cX12_go 106 = .ok (.iload 6, 2) := by decide +kernel
theorem dX12_go_108 : decode cX12_go 108 = .ok (.iastore, 1) := by decide +kernel
theorem dX12_go_109 : decode cX12_go 109 = .ok (.aload_n 0, 1) := by decide +kernel
theorem dX12_go_110 : decode cX12_go 110 = .ok (.iconst 1, 1) := by decide +kernel
theorem dX12_go_111 : decode cX12_go 111 = .ok (.iload_n 1, 1) := by decide +kernel
theorem dX12_go_112 : decode cX12_go 112 = .ok (.ishl, 1) := by decide +kernel
theorem dX12_go_113 : decode cX12_go 113 = .ok (.bipush 60, 2) := by decide +kernel
theorem dX12_go_115 : decode cX12_go 115 = .ok (.iconst 0, 1) := by decide +kernel
theorem dX12_go_116 : decode cX12_go 116 = .ok (.invokevirtual 194, 3) := by decide +kernel
theorem dX12_go_119 : decode cX12_go 119 = .ok (.istore 7, 2) := by decide +kernel
theorem dX12_go_121 : decode cX12_go 121 = .ok (.iload 7, 2) := by decide +kernel
theorem dX12_go_123 : decode cX12_go 123 = .ok (.ldc 47, 2) := by decide +kernel
theorem dX12_go_125 : decode cX12_go 125 = .ok (.if_icmp .eq 21, 3) := by decide +kernel
theorem dX12_go_128 : decode cX12_go 128 = .ok (.iload 5, 2) := by decide +kernel
theorem dX12_go_130 : decode cX12_go 130 = .ok (.ldc 47, 2) := by decide +kernel
theorem dX12_go_132 : decode cX12_go 132 = .ok (.if_icmp .eq 10, 3) := by decide +kernel
theorem dX12_go_135 : decode cX12_go 135 = .ok (.iload 7, 2) := by decide +kernel
theorem dX12_go_137 : decode cX12_go 137 = .ok (.iload 5, 2) := by decide +kernel
theorem dX12_go_139 : decode cX12_go 139 = .ok (.if_icmp .ge 7, 3) := by decide +kernel
theorem dX12_go_142 : decode cX12_go 142 = .ok (.iconst 1, 1) := by decide +kernel
theorem dX12_go_143 : decode cX12_go 143 = .ok (.goto 4, 3) := by decide +kernel
theorem dX12_go_146 : decode cX12_go 146 = .ok (.iconst 0, 1) := by decide +kernel
theorem dX12_go_147 : decode cX12_go 147 = .ok (.istore 8, 2) := by decide +kernel
theorem dX12_go_149 : decode cX12_go 149 = .ok (.iload 8, 2) := by decide +kernel
theorem dX12_go_151 : decode cX12_go 151 = .ok (.ifCond .eq 8, 3) := by decide +kernel
theorem dX12_go_154 : decode cX12_go 154 = .ok (.iload 6, 2) := by decide +kernel
theorem dX12_go_156 : decode cX12_go 156 = .ok (.goto 5, 3) := by decide +kernel
theorem dX12_go_159 : decode cX12_go 159 = .ok (.iload 4, 2) := by decide +kernel
theorem dX12_go_161 : decode cX12_go 161 = .ok (.istore 4, 2) := by decide +kernel
theorem dX12_go_163 : decode cX12_go 163 = .ok (.iload 8, 2) := by decide +kernel
theorem dX12_go_165 : decode cX12_go 165 = .ok (.ifCond .eq 8, 3) := by decide +kernel
theorem dX12_go_168 : decode cX12_go 168 = .ok (.iload 7, 2) := by decide +kernel
theorem dX12_go_170 : decode cX12_go 170 = .ok (.goto 5, 3) := by decide +kernel
theorem dX12_go_173 : decode cX12_go 173 = .ok (.iload 5, 2) := by decide +kernel
theorem dX12_go_175 : decode cX12_go 175 = .ok (.istore 5, 2) := by decide +kernel
theorem dX12_go_177 : decode cX12_go 177 = .ok (.iinc 6 1, 3) := by decide +kernel
theorem dX12_go_180 : decode cX12_go 180 = .ok (.goto (-143), 3) := by decide +kernel
theorem dX12_go_183 : decode cX12_go 183 = .ok (.iload_n 2, 1) := by decide +kernel
theorem dX12_go_184 : decode cX12_go 184 = .ok (.ifCond .ne 8, 3) := by decide +kernel
theorem dX12_go_187 : decode cX12_go 187 = .ok (.iload 4, 2) := by decide +kernel
theorem dX12_go_189 : decode cX12_go 189 = .ok (.goto 5, 3) := by decide +kernel
theorem dX12_go_192 : decode cX12_go 192 = .ok (.iload 5, 2) := by decide +kernel
theorem dX12_go_194 : decode cX12_go 194 = .ok (.ireturn, 1) := by decide +kernel
theorem dX12_walkers_0 : decode cX12_walkers 0 = .ok (.aload_n 0, 1) := by decide +kernel
theorem dX12_walkers_1 : decode cX12_walkers 1 = .ok (.invokevirtual 167, 3) := by decide +kernel
theorem dX12_walkers_4 : decode cX12_walkers 4 = .ok (.ifCond .ne 6, 3) := by decide +kernel
theorem dX12_walkers_7 : decode cX12_walkers 7 = .ok (.ldc 170, 2) := by decide +kernel
theorem dX12_walkers_9 : decode cX12_walkers 9 = .ok (.ireturn, 1) := by decide +kernel
theorem dX12_walkers_10 : decode cX12_walkers 10 = .ok (.iload_n 1, 1) := by decide +kernel
theorem dX12_walkers_11 : decode cX12_walkers 11 = .ok (.invokestatic 187, 3) := by decide +kernel
theorem dX12_walkers_14 : decode cX12_walkers 14 = .ok (.ifCond .eq 12, 3) := by decide +kernel
theorem dX12_walkers_17 : decode cX12_walkers 17 = .ok (.iload_n 2, 1) := by decide +kernel
theorem dX12_walkers_18 : decode cX12_walkers 18 = .ok (.iconst 0, 1) := by decide +kernel
theorem dX12_walkers_19 : decode cX12_walkers 19 = .ok (.iconst 1, 1) := by decide +kernel
theorem dX12_walkers_20 : decode cX12_walkers 20 = .ok (.invokestatic 53, 3) := by decide +kernel
theorem dX12_walkers_23 : decode cX12_walkers 23 = .ok (.ifCond .ne 6, 3) := by decide +kernel
theorem dX12_walkers_26 : decode cX12_walkers 26 = .ok (.ldc 61, 2) := by decide +kernel
theorem dX12_walkers_28 : decode cX12_walkers 28 = .ok (.ireturn, 1) := by decide +kernel
theorem dX12_walkers_29 : decode cX12_walkers 29 = .ok (.ldc 47, 2) := by decide +kernel
theorem dX12_walkers_31 : decode cX12_walkers 31 = .ok (.istore_n 3, 1) := by decide +kernel
theorem dX12_walkers_32 : decode cX12_walkers 32 = .ok (.iconst 0, 1) := by decide +kernel
theorem dX12_walkers_33 : decode cX12_walkers 33 = .ok (.istore 4, 2) := by decide +kernel
theorem dX12_walkers_35 : decode cX12_walkers 35 = .ok (.iload 4, 2) := by decide +kernel
theorem dX12_walkers_37 : decode cX12_walkers 37 = .ok (.aload_n 0, 1) := by decide +kernel
theorem dX12_walkers_38 : decode cX12_walkers 38 = .ok (.getfield 25, 3) := by decide +kernel
theorem dX12_walkers_41 : decode cX12_walkers 41 = .ok (.invokestatic 198, 3) := by decide +kernel
theorem dX12_walkers_44 : decode cX12_walkers 44 = .ok (.if_icmp .gt 58, 3) := by decide +kernel
theorem dX12_walkers_47 : decode cX12_walkers 47 = .ok (.iload_n 3, 1) := by decide +kernel
theorem dX12_walkers_48 : decode cX12_walkers 48 = .ok (.ldc 47, 2) := by decide +kernel
theorem dX12_walkers_50 : decode cX12_walkers 50 = .ok (.if_icmp .eq 15, 3) := by decide +kernel
theorem dX12_walkers_53 : decode cX12_walkers 53 = .ok (.iload 4, 2) := by decide +kernel
theorem dX12_walkers_55 : decode cX12_walkers 55 = .ok (.invokestatic 139, 3) := by decide +kernel
theorem dX12_walkers_58 : decode cX12_walkers 58 = .ok (.iload_n 3, 1) := by decide +kernel
theorem dX12_walkers_59 : decode cX12_walkers 59 = .ok (.invokestatic 139, 3) := by decide +kernel
theorem dX12_walkers_62 : decode cX12_walkers 62 = .ok (.if_icmp .ge 34, 3) := by decide +kernel
theorem dX12_walkers_65 : decode cX12_walkers 65 = .ok (.aload_n 0, 1) := by decide +kernel
theorem dX12_walkers_66 : decode cX12_walkers 66 = .ok (.iconst 0, 1) := by decide +kernel
theorem dX12_walkers_67 : decode cX12_walkers 67 = .ok (.invokevirtual 190, 3) := by decide +kernel
theorem dX12_walkers_70 : decode cX12_walkers 70 = .ok (.aload_n 0, 1) := by decide +kernel
theorem dX12_walkers_71 : decode cX12_walkers 71 = .ok (.aload_n 0, 1) := by decide +kernel
theorem dX12_walkers_72 : decode cX12_walkers 72 = .ok (.getfield 25, 3) := by decide +kernel
theorem dX12_walkers_75 : decode cX12_walkers 75 = .ok (.invokestatic 198, 3) := by decide +kernel
theorem dX12_walkers_78 : decode cX12_walkers 78 = .ok (.iload_n 1, 1) := by decide +kernel
theorem dX12_walkers_79 : decode cX12_walkers 79 = .ok (.iload 4, 2) := by decide +kernel
theorem dX12_walkers_81 : decode cX12_walkers 81 = .ok (.invokevirtual 194, 3) := by decide +kernel
theorem dX12_walkers_84 : decode cX12_walkers 84 = .ok (.ldc 47, 2) := by decide +kernel
theorem dX12_walkers_86 : decode cX12_walkers 86 = .ok (.if_icmp .eq 8, 3) := by decide +kernel
theorem dX12_walkers_89 : decode cX12_walkers 89 = .ok (.iload 4, 2) := by decide +kernel
theorem dX12_walkers_91 : decode cX12_walkers 91 = .ok (.goto 4, 3) := by decide +kernel
theorem dX12_walkers_94 : decode cX12_walkers 94 = .ok (.iload_n 3, 1) := by decide +kernel
theorem dX12_walkers_95 : decode cX12_walkers 95 = .ok (.istore_n 3, 1) := by decide +kernel
theorem dX12_walkers_96 : decode cX12_walkers 96 = .ok (.iinc 4 1, 3) := by decide +kernel
theorem dX12_walkers_99 : decode cX12_walkers 99 = .ok (.goto (-64), 3) := by decide +kernel
theorem dX12_walkers_102 : decode cX12_walkers 102 = .ok (.iload_n 3, 1) := by decide +kernel
theorem dX12_walkers_103 : decode cX12_walkers 103 = .ok (.ldc 47, 2) := by decide +kernel
theorem dX12_walkers_105 : decode cX12_walkers 105 = .ok (.if_icmp .eq 8, 3) := by decide +kernel
theorem dX12_walkers_108 : decode cX12_walkers 108 = .ok (.iload_n 2, 1) := by decide +kernel
theorem dX12_walkers_109 : decode cX12_walkers 109 = .ok (.iconst 1, 1) := by decide +kernel
theorem dX12_walkers_110 : decode cX12_walkers 110 = .ok (.if_icmp .ne 7, 3) := by decide +kernel
theorem dX12_walkers_113 : decode cX12_walkers 113 = .ok (.iload_n 3, 1) := by decide +kernel
theorem dX12_walkers_114 : decode cX12_walkers 114 = .ok (.goto 7, 3) := by decide +kernel
theorem dX12_walkers_117 : decode cX12_walkers 117 = .ok (.iload_n 3, 1) := by decide +kernel
theorem dX12_walkers_118 : decode cX12_walkers 118 = .ok (.invokestatic 139, 3) := by decide +kernel
theorem dX12_walkers_121 : decode cX12_walkers 121 = .ok (.ireturn, 1) := by decide +kernel
theorem dX12_goesSo_0 : decode cX12_goesSo 0 = .ok (.iconst 1, 1) := by decide +kernel
theorem dX12_goesSo_1 : decode cX12_goesSo 1 = .ok (.istore_n 3, 1) := by decide +kernel
theorem dX12_goesSo_2 : decode cX12_goesSo 2 = .ok (.iconst 0, 1) := by decide +kernel
theorem dX12_goesSo_3 : decode cX12_goesSo 3 = .ok (.istore 4, 2) := by decide +kernel
theorem dX12_goesSo_5 : decode cX12_goesSo 5 = .ok (.iload 4, 2) := by decide +kernel
theorem dX12_goesSo_7 : decode cX12_goesSo 7 = .ok (.iload_n 2, 1) := by decide +kernel
theorem dX12_goesSo_8 : decode cX12_goesSo 8 = .ok (.if_icmp .ge 62, 3) := by decide +kernel
theorem dX12_goesSo_11 : decode cX12_goesSo 11 = .ok (.aload_n 0, 1) := by decide +kernel
theorem dX12_goesSo_12 : decode cX12_goesSo 12 = .ok (.getfield 31, 3) := by decide +kernel
theorem dX12_goesSo_15 : decode cX12_goesSo 15 = .ok (.iconst 0, 1) := by decide +kernel
theorem dX12_goesSo_16 : decode cX12_goesSo 16 = .ok (.invokestatic 160, 3) := by decide +kernel
theorem dX12_goesSo_19 : decode cX12_goesSo 19 = .ok (.istore 5, 2) := by decide +kernel
theorem dX12_goesSo_21 : decode cX12_goesSo 21 = .ok (.iload_n 3, 1) := by decide +kernel
theorem dX12_goesSo_22 : decode cX12_goesSo 22 = .ok (.ifCond .eq 32, 3) := by decide +kernel
theorem dX12_goesSo_25 : decode cX12_goesSo 25 = .ok (.iload 5, 2) := by decide +kernel
theorem dX12_goesSo_27 : decode cX12_goesSo 27 = .ok (.ldc 47, 2) := by decide +kernel
theorem dX12_goesSo_29 : decode cX12_goesSo 29 = .ok (.if_icmp .ne 7, 3) := by decide +kernel
theorem dX12_goesSo_32 : decode cX12_goesSo 32 = .ok (.iconst (-1), 1) := by decide +kernel
theorem dX12_goesSo_33 : decode cX12_goesSo 33 = .ok (.goto 5, 3) := by decide +kernel
theorem dX12_goesSo_36 : decode cX12_goesSo 36 = .ok (.iload 5, 2) := by decide +kernel
theorem dX12_goesSo_38 : decode cX12_goesSo 38 = .ok (.aload_n 0, 1) := by decide +kernel
theorem dX12_goesSo_39 : decode cX12_goesSo 39 = .ok (.getfield 16, 3) := by decide +kernel
theorem dX12_goesSo_42 : decode cX12_goesSo 42 = .ok (.iload_n 1, 1) := by decide +kernel
theorem dX12_goesSo_43 : decode cX12_goesSo 43 = .ok (.iload 4, 2) := by decide +kernel
theorem dX12_goesSo_45 : decode cX12_goesSo 45 = .ok (.iadd, 1) := by decide +kernel
theorem dX12_goesSo_46 : decode cX12_goesSo 46 = .ok (.iaload, 1) := by decide +kernel
theorem dX12_goesSo_47 : decode cX12_goesSo 47 = .ok (.if_icmp .ne 7, 3) := by decide +kernel
theorem dX12_goesSo_50 : decode cX12_goesSo 50 = .ok (.iconst 1, 1) := by decide +kernel
theorem dX12_goesSo_51 : decode cX12_goesSo 51 = .ok (.goto 4, 3) := by decide +kernel
theorem dX12_goesSo_54 : decode cX12_goesSo 54 = .ok (.iconst 0, 1) := by decide +kernel
theorem dX12_goesSo_55 : decode cX12_goesSo 55 = .ok (.istore_n 3, 1) := by decide +kernel
theorem dX12_goesSo_56 : decode cX12_goesSo 56 = .ok (.aload_n 0, 1) := by decide +kernel
theorem dX12_goesSo_57 : decode cX12_goesSo 57 = .ok (.getfield 31, 3) := by decide +kernel
theorem dX12_goesSo_60 : decode cX12_goesSo 60 = .ok (.iconst 0, 1) := by decide +kernel
theorem dX12_goesSo_61 : decode cX12_goesSo 61 = .ok (.invokestatic 163, 3) := by decide +kernel
theorem dX12_goesSo_64 : decode cX12_goesSo 64 = .ok (.iinc 4 1, 3) := by decide +kernel
theorem dX12_goesSo_67 : decode cX12_goesSo 67 = .ok (.goto (-62), 3) := by decide +kernel
theorem dX12_goesSo_70 : decode cX12_goesSo 70 = .ok (.iload_n 3, 1) := by decide +kernel
theorem dX12_goesSo_71 : decode cX12_goesSo 71 = .ok (.ireturn, 1) := by decide +kernel
theorem dX12_fits_0 : decode cX12_fits 0 = .ok (.aload_n 0, 1) := by decide +kernel
theorem dX12_fits_1 : decode cX12_fits 1 = .ok (.iload_n 1, 1) := by decide +kernel
theorem dX12_fits_2 : decode cX12_fits 2 = .ok (.invokevirtual 178, 3) := by decide +kernel
theorem dX12_fits_5 : decode cX12_fits 5 = .ok (.ifCond .eq 31, 3) := by decide +kernel
theorem dX12_fits_8 : decode cX12_fits 8 = .ok (.iload_n 2, 1) := by decide +kernel
theorem dX12_fits_9 : decode cX12_fits 9 = .ok (.invokestatic 57, 3) := by decide +kernel
theorem dX12_fits_12 : decode cX12_fits 12 = .ok (.ifCond .eq 24, 3) := by decide +kernel
theorem dX12_fits_15 : decode cX12_fits 15 = .ok (.iload 4, 2) := by decide +kernel
theorem dX12_fits_17 : decode cX12_fits 17 = .ok (.iconst 1, 1) := by decide +kernel
theorem dX12_fits_18 : decode cX12_fits 18 = .ok (.bipush 16, 2) := by decide +kernel
theorem dX12_fits_20 : decode cX12_fits 20 = .ok (.invokestatic 53, 3) := by decide +kernel
theorem dX12_fits_23 : decode cX12_fits 23 = .ok (.ifCond .eq 13, 3) := by decide +kernel
theorem dX12_fits_26 : decode cX12_fits 26 = .ok (.iload 5, 2) := by decide +kernel
theorem dX12_fits_28 : decode cX12_fits 28 = .ok (.iconst 0, 1) := by decide +kernel
theorem dX12_fits_29 : decode cX12_fits 29 = .ok (.iconst 1, 1) := by decide +kernel
theorem dX12_fits_30 : decode cX12_fits 30 = .ok (.invokestatic 53, 3) := by decide +kernel
theorem dX12_fits_33 : decode cX12_fits 33 = .ok (.ifCond .ne 6, 3) := by decide +kernel
theorem dX12_fits_36 : decode cX12_fits 36 = .ok (.ldc 61, 2) := by decide +kernel
theorem dX12_fits_38 : decode cX12_fits 38 = .ok (.ireturn, 1) := by decide +kernel
theorem dX12_fits_39 : decode cX12_fits 39 = .ok (.aload_n 0, 1) := by decide +kernel
theorem dX12_fits_40 : decode cX12_fits 40 = .ok (.iload_n 2, 1) := by decide +kernel
theorem dX12_fits_41 : decode cX12_fits 41 = .ok (.invokevirtual 69, 3) := by decide +kernel
theorem dX12_fits_44 : decode cX12_fits 44 = .ok (.ifCond .eq 9, 3) := by decide +kernel
theorem dX12_fits_47 : decode cX12_fits 47 = .ok (.aload_n 0, 1) := by decide +kernel
theorem dX12_fits_48 : decode cX12_fits 48 = .ok (.iconst 1, 1) := by decide +kernel
theorem dX12_fits_49 : decode cX12_fits 49 = .ok (.invokevirtual 62, 3) := by decide +kernel
theorem dX12_fits_52 : decode cX12_fits 52 = .ok (.ireturn, 1) := by decide +kernel
theorem dX12_fits_53 : decode cX12_fits 53 = .ok (.aload_n 0, 1) := by decide +kernel
theorem dX12_fits_54 : decode cX12_fits 54 = .ok (.iload_n 2, 1) := by decide +kernel
theorem dX12_fits_55 : decode cX12_fits 55 = .ok (.iload_n 3, 1) := by decide +kernel
theorem dX12_fits_56 : decode cX12_fits 56 = .ok (.iload 4, 2) := by decide +kernel
theorem dX12_fits_58 : decode cX12_fits 58 = .ok (.invokevirtual 76, 3) := by decide +kernel
theorem dX12_fits_61 : decode cX12_fits 61 = .ok (.ifCond .ne 9, 3) := by decide +kernel
theorem dX12_fits_64 : decode cX12_fits 64 = .ok (.aload_n 0, 1) := by decide +kernel
theorem dX12_fits_65 : decode cX12_fits 65 = .ok (.iconst 2, 1) := by decide +kernel
theorem dX12_fits_66 : decode cX12_fits 66 = .ok (.invokevirtual 62, 3) := by decide +kernel
theorem dX12_fits_69 : decode cX12_fits 69 = .ok (.ireturn, 1) := by decide +kernel
theorem dX12_fits_70 : decode cX12_fits 70 = .ok (.iconst 4, 1) := by decide +kernel
theorem dX12_fits_71 : decode cX12_fits 71 = .ok (.iconst 5, 1) := by decide +kernel
theorem dX12_fits_72 : decode cX12_fits 72 = .ok (.iload_n 1, 1) := by decide +kernel
theorem dX12_fits_73 : decode cX12_fits 73 = .ok (.imul, 1) := by decide +kernel
theorem dX12_fits_74 : decode cX12_fits 74 = .ok (.iadd, 1) := by decide +kernel
theorem dX12_fits_75 : decode cX12_fits 75 = .ok (.iload 5, 2) := by decide +kernel
theorem dX12_fits_77 : decode cX12_fits 77 = .ok (.ifCond .ne 7, 3) := by decide +kernel
theorem dX12_fits_80 : decode cX12_fits 80 = .ok (.iconst 2, 1) := by decide +kernel
theorem dX12_fits_81 : decode cX12_fits 81 = .ok (.goto 4, 3) := by decide +kernel
theorem dX12_fits_84 : decode cX12_fits 84 = .ok (.iconst 0, 1) := by decide +kernel
theorem dX12_fits_85 : decode cX12_fits 85 = .ok (.iadd, 1) := by decide +kernel
theorem dX12_fits_86 : decode cX12_fits 86 = .ok (.istore 6, 2) := by decide +kernel
theorem dX12_fits_88 : decode cX12_fits 88 = .ok (.iconst 0, 1) := by decide +kernel
theorem dX12_fits_89 : decode cX12_fits 89 = .ok (.istore 7, 2) := by decide +kernel
theorem dX12_fits_91 : decode cX12_fits 91 = .ok (.iload 5, 2) := by decide +kernel
theorem dX12_fits_93 : decode cX12_fits 93 = .ok (.istore 8, 2) := by decide +kernel
theorem dX12_fits_95 : decode cX12_fits 95 = .ok (.iload 8, 2) := by decide +kernel
theorem dX12_fits_97 : decode cX12_fits 97 = .ok (.iload 5, 2) := by decide +kernel
theorem dX12_fits_99 : decode cX12_fits 99 = .ok (.ifCond .ne 8, 3) := by decide +kernel
theorem dX12_fits_102 : decode cX12_fits 102 = .ok (.bipush 20, 2) := by decide +kernel
theorem dX12_fits_104 : decode cX12_fits 104 = .ok (.goto 4, 3) := by decide +kernel
theorem dX12_fits_107 : decode cX12_fits 107 = .ok (.iconst 5, 1) := by decide +kernel
theorem dX12_fits_108 : decode cX12_fits 108 = .ok (.if_icmp .gt 51, 3) := by decide +kernel
theorem dX12_fits_111 : decode cX12_fits 111 = .ok (.aload_n 0, 1) := by decide +kernel
theorem dX12_fits_112 : decode cX12_fits 112 = .ok (.iconst 0, 1) := by decide +kernel
theorem dX12_fits_113 : decode cX12_fits 113 = .ok (.invokevirtual 190, 3) := by decide +kernel
theorem dX12_fits_116 : decode cX12_fits 116 = .ok (.aload_n 0, 1) := by decide +kernel
theorem dX12_fits_117 : decode cX12_fits 117 = .ok (.getfield 31, 3) := by decide +kernel
theorem dX12_fits_120 : decode cX12_fits 120 = .ok (.iload 6, 2) := by decide +kernel
theorem dX12_fits_122 : decode cX12_fits 122 = .ok (.iload 8, 2) := by decide +kernel
theorem dX12_fits_124 : decode cX12_fits 124 = .ok (.iastore, 1) := by decide +kernel
theorem dX12_fits_125 : decode cX12_fits 125 = .ok (.iload 7, 2) := by decide +kernel
theorem dX12_fits_127 : decode cX12_fits 127 = .ok (.aload_n 0, 1) := by decide +kernel
theorem dX12_fits_128 : decode cX12_fits 128 = .ok (.bipush 40, 2) := by decide +kernel
theorem dX12_fits_130 : decode cX12_fits 130 = .ok (.iload_n 2, 1) := by decide +kernel
theorem dX12_fits_131 : decode cX12_fits 131 = .ok (.imul, 1) := by decide +kernel
theorem dX12_fits_132 : decode cX12_fits 132 = .ok (.iload_n 3, 1) := by decide +kernel
theorem dX12_fits_133 : decode cX12_fits 133 = .ok (.iadd, 1) := by decide +kernel
theorem dX12_fits_134 : decode cX12_fits 134 = .ok (.iload 4, 2) := by decide +kernel
theorem dX12_fits_136 : decode cX12_fits 136 = .ok (.invokevirtual 201, 3) := by decide +kernel
theorem dX12_fits_139 : decode cX12_fits 139 = .ok (.ifCond .eq 10, 3) := by decide +kernel
theorem dX12_fits_142 : decode cX12_fits 142 = .ok (.iconst 1, 1) := by decide +kernel
theorem dX12_fits_143 : decode cX12_fits 143 = .ok (.iload 8, 2) := by decide +kernel
theorem dX12_fits_145 : decode cX12_fits 145 = .ok (.ishl, 1) := by decide +kernel
theorem dX12_fits_146 : decode cX12_fits 146 = .ok (.goto 4, 3) := by decide +kernel
theorem dX12_fits_149 : decode cX12_fits 149 = .ok (.iconst 0, 1) := by decide +kernel
theorem dX12_fits_150 : decode cX12_fits 150 = .ok (.ior, 1) := by decide +kernel
theorem dX12_fits_151 : decode cX12_fits 151 = .ok (.istore 7, 2) := by decide +kernel
theorem dX12_fits_153 : decode cX12_fits 153 = .ok (.iinc 8 1, 3) := by decide +kernel
theorem dX12_fits_156 : decode cX12_fits 156 = .ok (.goto (-61), 3) := by decide +kernel
theorem dX12_fits_159 : decode cX12_fits 159 = .ok (.aload_n 0, 1) := by decide +kernel
theorem dX12_fits_160 : decode cX12_fits 160 = .ok (.iload 7, 2) := by decide +kernel
theorem dX12_fits_162 : decode cX12_fits 162 = .ok (.invokevirtual 66, 3) := by decide +kernel
theorem dX12_fits_165 : decode cX12_fits 165 = .ok (.ireturn, 1) := by decide +kernel
theorem dX12_bounds_0 : decode cX12_bounds 0 = .ok (.aload_n 0, 1) := by decide +kernel
theorem dX12_bounds_1 : decode cX12_bounds 1 = .ok (.invokevirtual 167, 3) := by decide +kernel
theorem dX12_bounds_4 : decode cX12_bounds 4 = .ok (.ifCond .ne 6, 3) := by decide +kernel
theorem dX12_bounds_7 : decode cX12_bounds 7 = .ok (.ldc 170, 2) := by decide +kernel
theorem dX12_bounds_9 : decode cX12_bounds 9 = .ok (.ireturn, 1) := by decide +kernel
theorem dX12_bounds_10 : decode cX12_bounds 10 = .ok (.iload_n 1, 1) := by decide +kernel
theorem dX12_bounds_11 : decode cX12_bounds 11 = .ok (.invokestatic 57, 3) := by decide +kernel
theorem dX12_bounds_14 : decode cX12_bounds 14 = .ok (.ifCond .eq 13, 3) := by decide +kernel
theorem dX12_bounds_17 : decode cX12_bounds 17 = .ok (.iload_n 3, 1) := by decide +kernel
theorem dX12_bounds_18 : decode cX12_bounds 18 = .ok (.iconst 1, 1) := by decide +kernel
theorem dX12_bounds_19 : decode cX12_bounds 19 = .ok (.bipush 16, 2) := by decide +kernel
theorem dX12_bounds_21 : decode cX12_bounds 21 = .ok (.invokestatic 53, 3) := by decide +kernel
theorem dX12_bounds_24 : decode cX12_bounds 24 = .ok (.ifCond .ne 6, 3) := by decide +kernel
theorem dX12_bounds_27 : decode cX12_bounds 27 = .ok (.ldc 61, 2) := by decide +kernel
theorem dX12_bounds_29 : decode cX12_bounds 29 = .ok (.ireturn, 1) := by decide +kernel
theorem dX12_bounds_30 : decode cX12_bounds 30 = .ok (.aload_n 0, 1) := by decide +kernel
theorem dX12_bounds_31 : decode cX12_bounds 31 = .ok (.iload_n 1, 1) := by decide +kernel
theorem dX12_bounds_32 : decode cX12_bounds 32 = .ok (.invokevirtual 69, 3) := by decide +kernel
theorem dX12_bounds_35 : decode cX12_bounds 35 = .ok (.ifCond .eq 9, 3) := by decide +kernel
theorem dX12_bounds_38 : decode cX12_bounds 38 = .ok (.aload_n 0, 1) := by decide +kernel
theorem dX12_bounds_39 : decode cX12_bounds 39 = .ok (.iconst 1, 1) := by decide +kernel
theorem dX12_bounds_40 : decode cX12_bounds 40 = .ok (.invokevirtual 62, 3) := by decide +kernel
theorem dX12_bounds_43 : decode cX12_bounds 43 = .ok (.ireturn, 1) := by decide +kernel
theorem dX12_bounds_44 : decode cX12_bounds 44 = .ok (.aload_n 0, 1) := by decide +kernel
theorem dX12_bounds_45 : decode cX12_bounds 45 = .ok (.iload_n 1, 1) := by decide +kernel
theorem dX12_bounds_46 : decode cX12_bounds 46 = .ok (.iload_n 2, 1) := by decide +kernel
theorem dX12_bounds_47 : decode cX12_bounds 47 = .ok (.iload_n 3, 1) := by decide +kernel
theorem dX12_bounds_48 : decode cX12_bounds 48 = .ok (.invokevirtual 76, 3) := by decide +kernel
theorem dX12_bounds_51 : decode cX12_bounds 51 = .ok (.ifCond .ne 9, 3) := by decide +kernel
theorem dX12_bounds_54 : decode cX12_bounds 54 = .ok (.aload_n 0, 1) := by decide +kernel
theorem dX12_bounds_55 : decode cX12_bounds 55 = .ok (.iconst 2, 1) := by decide +kernel
theorem dX12_bounds_56 : decode cX12_bounds 56 = .ok (.invokevirtual 62, 3) := by decide +kernel
theorem dX12_bounds_59 : decode cX12_bounds 59 = .ok (.ireturn, 1) := by decide +kernel
theorem dX12_bounds_60 : decode cX12_bounds 60 = .ok (.iconst 0, 1) := by decide +kernel
theorem dX12_bounds_61 : decode cX12_bounds 61 = .ok (.istore 4, 2) := by decide +kernel
theorem dX12_bounds_63 : decode cX12_bounds 63 = .ok (.iconst 0, 1) := by decide +kernel
theorem dX12_bounds_64 : decode cX12_bounds 64 = .ok (.istore 5, 2) := by decide +kernel
theorem dX12_bounds_66 : decode cX12_bounds 66 = .ok (.iload 5, 2) := by decide +kernel
theorem dX12_bounds_68 : decode cX12_bounds 68 = .ok (.bipush 30, 2) := by decide +kernel
theorem dX12_bounds_70 : decode cX12_bounds 70 = .ok (.if_icmp .ge 49, 3) := by decide +kernel
theorem dX12_bounds_73 : decode cX12_bounds 73 = .ok (.aload_n 0, 1) := by decide +kernel
theorem dX12_bounds_74 : decode cX12_bounds 74 = .ok (.iconst 0, 1) := by decide +kernel
theorem dX12_bounds_75 : decode cX12_bounds 75 = .ok (.invokevirtual 190, 3) := by decide +kernel
theorem dX12_bounds_78 : decode cX12_bounds 78 = .ok (.aload_n 0, 1) := by decide +kernel
theorem dX12_bounds_79 : decode cX12_bounds 79 = .ok (.getfield 31, 3) := by decide +kernel
theorem dX12_bounds_82 : decode cX12_bounds 82 = .ok (.iconst 1, 1) := by decide +kernel
theorem dX12_bounds_83 : decode cX12_bounds 83 = .ok (.iload 5, 2) := by decide +kernel
theorem dX12_bounds_85 : decode cX12_bounds 85 = .ok (.iastore, 1) := by decide +kernel
theorem dX12_bounds_86 : decode cX12_bounds 86 = .ok (.iload 4, 2) := by decide +kernel
theorem dX12_bounds_88 : decode cX12_bounds 88 = .ok (.aload_n 0, 1) := by decide +kernel
theorem dX12_bounds_89 : decode cX12_bounds 89 = .ok (.bipush 40, 2) := by decide +kernel
theorem dX12_bounds_91 : decode cX12_bounds 91 = .ok (.iload_n 1, 1) := by decide +kernel
theorem dX12_bounds_92 : decode cX12_bounds 92 = .ok (.imul, 1) := by decide +kernel
theorem dX12_bounds_93 : decode cX12_bounds 93 = .ok (.iload_n 2, 1) := by decide +kernel
theorem dX12_bounds_94 : decode cX12_bounds 94 = .ok (.iadd, 1) := by decide +kernel
theorem dX12_bounds_95 : decode cX12_bounds 95 = .ok (.iload_n 3, 1) := by decide +kernel
theorem dX12_bounds_96 : decode cX12_bounds 96 = .ok (.invokevirtual 201, 3) := by decide +kernel
theorem dX12_bounds_99 : decode cX12_bounds 99 = .ok (.ifCond .eq 10, 3) := by decide +kernel
theorem dX12_bounds_102 : decode cX12_bounds 102 = .ok (.iconst 1, 1) := by decide +kernel
theorem dX12_bounds_103 : decode cX12_bounds 103 = .ok (.iload 5, 2) := by decide +kernel
theorem dX12_bounds_105 : decode cX12_bounds 105 = .ok (.ishl, 1) := by decide +kernel
theorem dX12_bounds_106 : decode cX12_bounds 106 = .ok (.goto 4, 3) := by decide +kernel
theorem dX12_bounds_109 : decode cX12_bounds 109 = .ok (.iconst 0, 1) := by decide +kernel
theorem dX12_bounds_110 : decode cX12_bounds 110 = .ok (.ior, 1) := by decide +kernel
theorem dX12_bounds_111 : decode cX12_bounds 111 = .ok (.istore 4, 2) := by decide +kernel
theorem dX12_bounds_113 : decode cX12_bounds 113 = .ok (.iinc 5 1, 3) := by decide +kernel
theorem dX12_bounds_116 : decode cX12_bounds 116 = .ok (.goto (-50), 3) := by decide +kernel
theorem dX12_bounds_119 : decode cX12_bounds 119 = .ok (.aload_n 0, 1) := by decide +kernel
theorem dX12_bounds_120 : decode cX12_bounds 120 = .ok (.iload 4, 2) := by decide +kernel
theorem dX12_bounds_122 : decode cX12_bounds 122 = .ok (.invokevirtual 66, 3) := by decide +kernel
theorem dX12_bounds_125 : decode cX12_bounds 125 = .ok (.ireturn, 1) := by decide +kernel
theorem dX12_rain_0 : decode cX12_rain 0 = .ok (.aload_n 0, 1) := by decide +kernel
theorem dX12_rain_1 : decode cX12_rain 1 = .ok (.iload_n 1, 1) := by decide +kernel
theorem dX12_rain_2 : decode cX12_rain 2 = .ok (.invokevirtual 181, 3) := by decide +kernel
theorem dX12_rain_5 : decode cX12_rain 5 = .ok (.ifCond .eq 22, 3) := by decide +kernel
theorem dX12_rain_8 : decode cX12_rain 8 = .ok (.iload_n 2, 1) := by decide +kernel
theorem dX12_rain_9 : decode cX12_rain 9 = .ok (.iconst 0, 1) := by decide +kernel
theorem dX12_rain_10 : decode cX12_rain 10 = .ok (.bipush 10, 2) := by decide +kernel
theorem dX12_rain_12 : decode cX12_rain 12 = .ok (.invokestatic 53, 3) := by decide +kernel
theorem dX12_rain_15 : decode cX12_rain 15 = .ok (.ifCond .eq 12, 3) := by decide +kernel
theorem dX12_rain_18 : decode cX12_rain 18 = .ok (.iload_n 3, 1) := by decide +kernel
theorem dX12_rain_19 : decode cX12_rain 19 = .ok (.iconst 0, 1) := by decide +kernel
theorem dX12_rain_20 : decode cX12_rain 20 = .ok (.iconst 1, 1) := by decide +kernel
theorem dX12_rain_21 : decode cX12_rain 21 = .ok (.invokestatic 53, 3) := by decide +kernel
theorem dX12_rain_24 : decode cX12_rain 24 = .ok (.ifCond .ne 6, 3) := by decide +kernel
theorem dX12_rain_27 : decode cX12_rain 27 = .ok (.ldc 61, 2) := by decide +kernel
theorem dX12_rain_29 : decode cX12_rain 29 = .ok (.ireturn, 1) := by decide +kernel
theorem dX12_rain_30 : decode cX12_rain 30 = .ok (.iconst 0, 1) := by decide +kernel
theorem dX12_rain_31 : decode cX12_rain 31 = .ok (.istore 4, 2) := by decide +kernel
theorem dX12_rain_33 : decode cX12_rain 33 = .ok (.iconst 1, 1) := by decide +kernel
theorem dX12_rain_34 : decode cX12_rain 34 = .ok (.istore 5, 2) := by decide +kernel
theorem dX12_rain_36 : decode cX12_rain 36 = .ok (.iconst 0, 1) := by decide +kernel
theorem dX12_rain_37 : decode cX12_rain 37 = .ok (.istore 6, 2) := by decide +kernel
theorem dX12_rain_39 : decode cX12_rain 39 = .ok (.iload 6, 2) := by decide +kernel
theorem dX12_rain_41 : decode cX12_rain 41 = .ok (.aload_n 0, 1) := by decide +kernel
theorem dX12_rain_42 : decode cX12_rain 42 = .ok (.getfield 25, 3) := by decide +kernel
theorem dX12_rain_45 : decode cX12_rain 45 = .ok (.iconst 3, 1) := by decide +kernel
theorem dX12_rain_46 : decode cX12_rain 46 = .ok (.iaload, 1) := by decide +kernel
theorem dX12_rain_47 : decode cX12_rain 47 = .ok (.if_icmp .ge 16, 3) := by decide +kernel
theorem dX12_rain_50 : decode cX12_rain 50 = .ok (.iload 5, 2) := by decide +kernel
theorem dX12_rain_52 : decode cX12_rain 52 = .ok (.bipush 10, 2) := by decide +kernel
theorem dX12_rain_54 : decode cX12_rain 54 = .ok (.imul, 1) := by decide +kernel
theorem dX12_rain_55 : decode cX12_rain 55 = .ok (.istore 5, 2) := by decide +kernel
theorem dX12_rain_57 : decode cX12_rain 57 = .ok (.iinc 6 1, 3) := by decide +kernel
theorem dX12_rain_60 : decode cX12_rain 60 = .ok (.goto (-21), 3) := by decide +kernel
theorem dX12_rain_63 : decode cX12_rain 63 = .ok (.iconst 0, 1) := by decide +kernel
theorem dX12_rain_64 : decode cX12_rain 64 = .ok (.istore 6, 2) := by decide +kernel
theorem dX12_rain_66 : decode cX12_rain 66 = .ok (.iload 6, 2) := by decide +kernel
theorem dX12_rain_68 : decode cX12_rain 68 = .ok (.aload_n 0, 1) := by decide +kernel
theorem dX12_rain_69 : decode cX12_rain 69 = .ok (.getfield 25, 3) := by decide +kernel
theorem dX12_rain_72 : decode cX12_rain 72 = .ok (.invokestatic 198, 3) := by decide +kernel
theorem dX12_rain_75 : decode cX12_rain 75 = .ok (.if_icmp .gt 79, 3) := by decide +kernel
theorem dX12_rain_78 : decode cX12_rain 78 = .ok (.iconst 1, 1) := by decide +kernel
theorem dX12_rain_79 : decode cX12_rain 79 = .ok (.istore 7, 2) := by decide +kernel
theorem dX12_rain_81 : decode cX12_rain 81 = .ok (.iconst 0, 1) := by decide +kernel
theorem dX12_rain_82 : decode cX12_rain 82 = .ok (.istore 8, 2) := by decide +kernel
theorem dX12_rain_84 : decode cX12_rain 84 = .ok (.iload 8, 2) := by decide +kernel
theorem dX12_rain_86 : decode cX12_rain 86 = .ok (.aload_n 0, 1) := by decide +kernel
theorem dX12_rain_87 : decode cX12_rain 87 = .ok (.getfield 25, 3) := by decide +kernel
theorem dX12_rain_90 : decode cX12_rain 90 = .ok (.iconst 3, 1) := by decide +kernel
theorem dX12_rain_91 : decode cX12_rain 91 = .ok (.iaload, 1) := by decide +kernel
theorem dX12_rain_92 : decode cX12_rain 92 = .ok (.if_icmp .ge 32, 3) := by decide +kernel
theorem dX12_rain_95 : decode cX12_rain 95 = .ok (.iload 7, 2) := by decide +kernel
theorem dX12_rain_97 : decode cX12_rain 97 = .ok (.iload 6, 2) := by decide +kernel
theorem dX12_rain_99 : decode cX12_rain 99 = .ok (.iload 8, 2) := by decide +kernel
theorem dX12_rain_101 : decode cX12_rain 101 = .ok (.invokestatic 142, 3) := by decide +kernel
theorem dX12_rain_104 : decode cX12_rain 104 = .ok (.ifCond .eq 7, 3) := by decide +kernel
theorem dX12_rain_107 : decode cX12_rain 107 = .ok (.iload_n 2, 1) := by decide +kernel
theorem dX12_rain_108 : decode cX12_rain 108 = .ok (.goto 7, 3) := by decide +kernel
theorem dX12_rain_111 : decode cX12_rain 111 = .ok (.bipush 10, 2) := by decide +kernel
theorem dX12_rain_113 : decode cX12_rain 113 = .ok (.iload_n 2, 1) := by decide +kernel
theorem dX12_rain_114 : decode cX12_rain 114 = .ok (.isub, 1) := by decide +kernel
theorem dX12_rain_115 : decode cX12_rain 115 = .ok (.imul, 1) := by decide +kernel
theorem dX12_rain_116 : decode cX12_rain 116 = .ok (.istore 7, 2) := by decide +kernel
theorem dX12_rain_118 : decode cX12_rain 118 = .ok (.iinc 8 1, 3) := by decide +kernel
theorem dX12_rain_121 : decode cX12_rain 121 = .ok (.goto (-37), 3) := by decide +kernel
theorem dX12_rain_124 : decode cX12_rain 124 = .ok (.iload 4, 2) := by decide +kernel
theorem dX12_rain_126 : decode cX12_rain 126 = .ok (.aload_n 0, 1) := by decide +kernel
theorem dX12_rain_127 : decode cX12_rain 127 = .ok (.getfield 25, 3) := by decide +kernel
theorem dX12_rain_130 : decode cX12_rain 130 = .ok (.iload 6, 2) := by decide +kernel
theorem dX12_rain_132 : decode cX12_rain 132 = .ok (.invokestatic 160, 3) := by decide +kernel
theorem dX12_rain_135 : decode cX12_rain 135 = .ok (.iload_n 1, 1) := by decide +kernel
theorem dX12_rain_136 : decode cX12_rain 136 = .ok (.if_icmp .ne 8, 3) := by decide +kernel
theorem dX12_rain_139 : decode cX12_rain 139 = .ok (.iload 7, 2) := by decide +kernel
theorem dX12_rain_141 : decode cX12_rain 141 = .ok (.goto 4, 3) := by decide +kernel
theorem dX12_rain_144 : decode cX12_rain 144 = .ok (.iconst 0, 1) := by decide +kernel
theorem dX12_rain_145 : decode cX12_rain 145 = .ok (.iadd, 1) := by decide +kernel
theorem dX12_rain_146 : decode cX12_rain 146 = .ok (.istore 4, 2) := by decide +kernel
theorem dX12_rain_148 : decode cX12_rain 148 = .ok (.iinc 6 1, 3) := by decide +kernel
theorem dX12_rain_151 : decode cX12_rain 151 = .ok (.goto (-85), 3) := by decide +kernel
theorem dX12_rain_154 : decode cX12_rain 154 = .ok (.iload 4, 2) := by decide +kernel
theorem dX12_rain_156 : decode cX12_rain 156 = .ok (.istore 6, 2) := by decide +kernel
theorem dX12_rain_158 : decode cX12_rain 158 = .ok (.iload 5, 2) := by decide +kernel
theorem dX12_rain_160 : decode cX12_rain 160 = .ok (.istore 7, 2) := by decide +kernel
theorem dX12_rain_162 : decode cX12_rain 162 = .ok (.iload 7, 2) := by decide +kernel
theorem dX12_rain_164 : decode cX12_rain 164 = .ok (.ifCond .eq 21, 3) := by decide +kernel
theorem dX12_rain_167 : decode cX12_rain 167 = .ok (.iload 6, 2) := by decide +kernel
theorem dX12_rain_169 : decode cX12_rain 169 = .ok (.iload 7, 2) := by decide +kernel
theorem dX12_rain_171 : decode cX12_rain 171 = .ok (.irem, 1) := by decide +kernel
theorem dX12_rain_172 : decode cX12_rain 172 = .ok (.istore 8, 2) := by decide +kernel
theorem dX12_rain_174 : decode cX12_rain 174 = .ok (.iload 7, 2) := by decide +kernel
theorem dX12_rain_176 : decode cX12_rain 176 = .ok (.istore 6, 2) := by decide +kernel
theorem dX12_rain_178 : decode cX12_rain 178 = .ok (.iload 8, 2) := by decide +kernel
theorem dX12_rain_180 : decode cX12_rain 180 = .ok (.istore 7, 2) := by decide +kernel
theorem dX12_rain_182 : decode cX12_rain 182 = .ok (.goto (-20), 3) := by decide +kernel
theorem dX12_rain_185 : decode cX12_rain 185 = .ok (.iload_n 3, 1) := by decide +kernel
theorem dX12_rain_186 : decode cX12_rain 186 = .ok (.ifCond .ne 8, 3) := by decide +kernel
theorem dX12_rain_189 : decode cX12_rain 189 = .ok (.iload 4, 2) := by decide +kernel
theorem dX12_rain_191 : decode cX12_rain 191 = .ok (.goto 5, 3) := by decide +kernel
theorem dX12_rain_194 : decode cX12_rain 194 = .ok (.iload 5, 2) := by decide +kernel
theorem dX12_rain_196 : decode cX12_rain 196 = .ok (.iload 6, 2) := by decide +kernel
theorem dX12_rain_198 : decode cX12_rain 198 = .ok (.idiv, 1) := by decide +kernel
theorem dX12_rain_199 : decode cX12_rain 199 = .ok (.ireturn, 1) := by decide +kernel
theorem dX12_drawn_0 : decode cX12_drawn 0 = .ok (.aload_n 0, 1) := by decide +kernel
theorem dX12_drawn_1 : decode cX12_drawn 1 = .ok (.invokevirtual 167, 3) := by decide +kernel
theorem dX12_drawn_4 : decode cX12_drawn 4 = .ok (.ifCond .ne 6, 3) := by decide +kernel
theorem dX12_drawn_7 : decode cX12_drawn 7 = .ok (.ldc 170, 2) := by decide +kernel
theorem dX12_drawn_9 : decode cX12_drawn 9 = .ok (.ireturn, 1) := by decide +kernel
theorem dX12_drawn_10 : decode cX12_drawn 10 = .ok (.iload_n 1, 1) := by decide +kernel
theorem dX12_drawn_11 : decode cX12_drawn 11 = .ok (.invokestatic 187, 3) := by decide +kernel
theorem dX12_drawn_14 : decode cX12_drawn 14 = .ok (.ifCond .eq 22, 3) := by decide +kernel
theorem dX12_drawn_17 : decode cX12_drawn 17 = .ok (.iload_n 2, 1) := by decide +kernel
theorem dX12_drawn_18 : decode cX12_drawn 18 = .ok (.iconst 1, 1) := by decide +kernel
theorem dX12_drawn_19 : decode cX12_drawn 19 = .ok (.ldc 204, 2) := by decide +kernel
theorem dX12_drawn_21 : decode cX12_drawn 21 = .ok (.invokestatic 53, 3) := by decide +kernel
theorem dX12_drawn_24 : decode cX12_drawn 24 = .ok (.ifCond .eq 12, 3) := by decide +kernel
theorem dX12_drawn_27 : decode cX12_drawn 27 = .ok (.iload_n 3, 1) := by decide +kernel
theorem dX12_drawn_28 : decode cX12_drawn 28 = .ok (.iconst 0, 1) := by decide +kernel
theorem dX12_drawn_29 : decode cX12_drawn 29 = .ok (.iconst 1, 1) := by decide +kernel
theorem dX12_drawn_30 : decode cX12_drawn 30 = .ok (.invokestatic 53, 3) := by decide +kernel
theorem dX12_drawn_33 : decode cX12_drawn 33 = .ok (.ifCond .ne 6, 3) := by decide +kernel
theorem dX12_drawn_36 : decode cX12_drawn 36 = .ok (.ldc 61, 2) := by decide +kernel
theorem dX12_drawn_38 : decode cX12_drawn 38 = .ok (.ireturn, 1) := by decide +kernel
theorem dX12_drawn_39 : decode cX12_drawn 39 = .ok (.aload_n 0, 1) := by decide +kernel
theorem dX12_drawn_40 : decode cX12_drawn 40 = .ok (.iconst 0, 1) := by decide +kernel
theorem dX12_drawn_41 : decode cX12_drawn 41 = .ok (.invokevirtual 190, 3) := by decide +kernel
theorem dX12_drawn_44 : decode cX12_drawn 44 = .ok (.iload_n 2, 1) := by decide +kernel
theorem dX12_drawn_45 : decode cX12_drawn 45 = .ok (.i2l, 1) := by decide +kernel
theorem dX12_drawn_46 : decode cX12_drawn 46 = .ok (.lstore 4, 2) := by decide +kernel
theorem dX12_drawn_48 : decode cX12_drawn 48 = .ok (.iconst 0, 1) := by decide +kernel
theorem dX12_drawn_49 : decode cX12_drawn 49 = .ok (.istore 6, 2) := by decide +kernel
theorem dX12_drawn_51 : decode cX12_drawn 51 = .ok (.iconst 0, 1) := by decide +kernel
theorem dX12_drawn_52 : decode cX12_drawn 52 = .ok (.istore 7, 2) := by decide +kernel
theorem dX12_drawn_54 : decode cX12_drawn 54 = .ok (.iload 7, 2) := by decide +kernel
theorem dX12_drawn_56 : decode cX12_drawn 56 = .ok (.iload_n 1, 1) := by decide +kernel
theorem dX12_drawn_57 : decode cX12_drawn 57 = .ok (.if_icmp .ge 90, 3) := by decide +kernel
theorem dX12_drawn_60 : decode cX12_drawn 60 = .ok (.lload 4, 2) := by decide +kernel
theorem dX12_drawn_62 : decode cX12_drawn 62 = .ok (.ldc2_w 205, 3) := by decide +kernel
theorem dX12_drawn_65 : decode cX12_drawn 65 = .ok (.lmul, 1) := by decide +kernel
theorem dX12_drawn_66 : decode cX12_drawn 66 = .ok (.ldc2_w 207, 3) := by decide +kernel
theorem dX12_drawn_69 : decode cX12_drawn 69 = .ok (.lrem, 1) := by decide +kernel
theorem dX12_drawn_70 : decode cX12_drawn 70 = .ok (.lstore 4, 2) := by decide +kernel
theorem dX12_drawn_72 : decode cX12_drawn 72 = .ok (.aload_n 0, 1) := by decide +kernel
theorem dX12_drawn_73 : decode cX12_drawn 73 = .ok (.getfield 25, 3) := by decide +kernel
theorem dX12_drawn_76 : decode cX12_drawn 76 = .ok (.iconst 3, 1) := by decide +kernel
theorem dX12_drawn_77 : decode cX12_drawn 77 = .ok (.iaload, 1) := by decide +kernel
theorem dX12_drawn_78 : decode cX12_drawn 78 = .ok (.ifCond .le 32, 3) := by decide +kernel
theorem dX12_drawn_81 : decode cX12_drawn 81 = .ok (.aload_n 0, 1) := by decide +kernel
theorem dX12_drawn_82 : decode cX12_drawn 82 = .ok (.getfield 31, 3) := by decide +kernel
theorem dX12_drawn_85 : decode cX12_drawn 85 = .ok (.iconst 4, 1) := by decide +kernel
theorem dX12_drawn_86 : decode cX12_drawn 86 = .ok (.iconst 5, 1) := by decide +kernel
theorem dX12_drawn_87 : decode cX12_drawn 87 = .ok (.lload 4, 2) := by decide +kernel
theorem dX12_drawn_89 : decode cX12_drawn 89 = .ok (.aload_n 0, 1) := by decide +kernel
theorem dX12_drawn_90 : decode cX12_drawn 90 = .ok (.getfield 25, 3) := by decide +kernel
theorem dX12_drawn_93 : decode cX12_drawn 93 = .ok (.iconst 3, 1) := by decide +kernel
theorem dX12_drawn_94 : decode cX12_drawn 94 = .ok (.iaload, 1) := by decide +kernel
theorem dX12_drawn_95 : decode cX12_drawn 95 = .ok (.i2l, 1) := by decide +kernel
theorem dX12_drawn_96 : decode cX12_drawn 96 = .ok (.lrem, 1) := by decide +kernel
theorem dX12_drawn_97 : decode cX12_drawn 97 = .ok (.l2i, 1) := by decide +kernel
theorem dX12_drawn_98 : decode cX12_drawn 98 = .ok (.imul, 1) := by decide +kernel
theorem dX12_drawn_99 : decode cX12_drawn 99 = .ok (.iadd, 1) := by decide +kernel
theorem dX12_drawn_100 : decode cX12_drawn 100 = .ok (.iconst 2, 1) := by decide +kernel
theorem dX12_drawn_101 : decode cX12_drawn 101 = .ok (.iadd, 1) := by decide +kernel
theorem dX12_drawn_102 : decode cX12_drawn 102 = .ok (.lload 4, 2) := by decide +kernel
theorem dX12_drawn_104 : decode cX12_drawn 104 = .ok (.ldc2_w 209, 3) := by decide +kernel
theorem dX12_drawn_107 : decode cX12_drawn 107 = .ok (.lrem, 1) := by decide +kernel
theorem dX12_drawn_108 : decode cX12_drawn 108 = .ok (.l2i, 1) := by decide +kernel
theorem dX12_drawn_109 : decode cX12_drawn 109 = .ok (.iastore, 1) := by decide +kernel
theorem dX12_drawn_110 : decode cX12_drawn 110 = .ok (.iload 6, 2) := by decide +kernel
theorem dX12_drawn_112 : decode cX12_drawn 112 = .ok (.aload_n 0, 1) := by decide +kernel
theorem dX12_drawn_113 : decode cX12_drawn 113 = .ok (.getfield 31, 3) := by decide +kernel
theorem dX12_drawn_116 : decode cX12_drawn 116 = .ok (.iconst 0, 1) := by decide +kernel
theorem dX12_drawn_117 : decode cX12_drawn 117 = .ok (.invokestatic 160, 3) := by decide +kernel
theorem dX12_drawn_120 : decode cX12_drawn 120 = .ok (.ldc 47, 2) := by decide +kernel
theorem dX12_drawn_122 : decode cX12_drawn 122 = .ok (.if_icmp .ne 7, 3) := by decide +kernel
theorem dX12_drawn_125 : decode cX12_drawn 125 = .ok (.iconst 0, 1) := by decide +kernel
theorem dX12_drawn_126 : decode cX12_drawn 126 = .ok (.goto 4, 3) := by decide +kernel
theorem dX12_drawn_129 : decode cX12_drawn 129 = .ok (.iconst 1, 1) := by decide +kernel
theorem dX12_drawn_130 : decode cX12_drawn 130 = .ok (.iadd, 1) := by decide +kernel
theorem dX12_drawn_131 : decode cX12_drawn 131 = .ok (.istore 6, 2) := by decide +kernel
theorem dX12_drawn_133 : decode cX12_drawn 133 = .ok (.aload_n 0, 1) := by decide +kernel
theorem dX12_drawn_134 : decode cX12_drawn 134 = .ok (.getfield 31, 3) := by decide +kernel
theorem dX12_drawn_137 : decode cX12_drawn 137 = .ok (.iconst 0, 1) := by decide +kernel
theorem dX12_drawn_138 : decode cX12_drawn 138 = .ok (.invokestatic 163, 3) := by decide +kernel
theorem dX12_drawn_141 : decode cX12_drawn 141 = .ok (.iinc 7 1, 3) := by decide +kernel
theorem dX12_drawn_144 : decode cX12_drawn 144 = .ok (.goto (-90), 3) := by decide +kernel
theorem dX12_drawn_147 : decode cX12_drawn 147 = .ok (.iload_n 3, 1) := by decide +kernel
theorem dX12_drawn_148 : decode cX12_drawn 148 = .ok (.ifCond .ne 13, 3) := by decide +kernel
theorem dX12_drawn_151 : decode cX12_drawn 151 = .ok (.aload_n 0, 1) := by decide +kernel
theorem dX12_drawn_152 : decode cX12_drawn 152 = .ok (.getfield 31, 3) := by decide +kernel
theorem dX12_drawn_155 : decode cX12_drawn 155 = .ok (.invokestatic 174, 3) := by decide +kernel
theorem dX12_drawn_158 : decode cX12_drawn 158 = .ok (.goto 5, 3) := by decide +kernel
theorem dX12_drawn_161 : decode cX12_drawn 161 = .ok (.iload 6, 2) := by decide +kernel
theorem dX12_drawn_163 : decode cX12_drawn 163 = .ok (.ireturn, 1) := by decide +kernel
theorem dX12_image_0 : decode cX12_image 0 = .ok (.iload_n 1, 1) := by decide +kernel
theorem dX12_image_1 : decode cX12_image 1 = .ok (.iconst 0, 1) := by decide +kernel
theorem dX12_image_2 : decode cX12_image 2 = .ok (.iconst 1, 1) := by decide +kernel
theorem dX12_image_3 : decode cX12_image 3 = .ok (.invokestatic 53, 3) := by decide +kernel
theorem dX12_image_6 : decode cX12_image 6 = .ok (.ifCond .ne 6, 3) := by decide +kernel
theorem dX12_image_9 : decode cX12_image 9 = .ok (.ldc 61, 2) := by decide +kernel
theorem dX12_image_11 : decode cX12_image 11 = .ok (.ireturn, 1) := by decide +kernel
theorem dX12_image_12 : decode cX12_image 12 = .ok (.aload_n 0, 1) := by decide +kernel
theorem dX12_image_13 : decode cX12_image 13 = .ok (.invokevirtual 167, 3) := by decide +kernel
theorem dX12_image_16 : decode cX12_image 16 = .ok (.ifCond .ne 6, 3) := by decide +kernel
theorem dX12_image_19 : decode cX12_image 19 = .ok (.ldc 170, 2) := by decide +kernel
theorem dX12_image_21 : decode cX12_image 21 = .ok (.ireturn, 1) := by decide +kernel
theorem dX12_image_22 : decode cX12_image 22 = .ok (.aload_n 0, 1) := by decide +kernel
theorem dX12_image_23 : decode cX12_image 23 = .ok (.getfield 25, 3) := by decide +kernel
theorem dX12_image_26 : decode cX12_image 26 = .ok (.iconst 0, 1) := by decide +kernel
theorem dX12_image_27 : decode cX12_image 27 = .ok (.aload_n 0, 1) := by decide +kernel
theorem dX12_image_28 : decode cX12_image 28 = .ok (.getfield 37, 3) := by decide +kernel
theorem dX12_image_31 : decode cX12_image 31 = .ok (.bipush 34, 2) := by decide +kernel
theorem dX12_image_33 : decode cX12_image 33 = .ok (.iload_n 1, 1) := by decide +kernel
theorem dX12_image_34 : decode cX12_image 34 = .ok (.imul, 1) := by decide +kernel
theorem dX12_image_35 : decode cX12_image 35 = .ok (.invokestatic 128, 3) := by decide +kernel
theorem dX12_image_38 : decode cX12_image 38 = .ok (.aload_n 0, 1) := by decide +kernel
theorem dX12_image_39 : decode cX12_image 39 = .ok (.getfield 40, 3) := by decide +kernel
theorem dX12_image_42 : decode cX12_image 42 = .ok (.iload_n 1, 1) := by decide +kernel
theorem dX12_image_43 : decode cX12_image 43 = .ok (.iconst 1, 1) := by decide +kernel
theorem dX12_image_44 : decode cX12_image 44 = .ok (.bastore, 1) := by decide +kernel
theorem dX12_image_45 : decode cX12_image 45 = .ok (.iconst 1, 1) := by decide +kernel
theorem dX12_image_46 : decode cX12_image 46 = .ok (.ireturn, 1) := by decide +kernel
theorem dX12_restore_0 : decode cX12_restore 0 = .ok (.iload_n 1, 1) := by decide +kernel
theorem dX12_restore_1 : decode cX12_restore 1 = .ok (.iconst 0, 1) := by decide +kernel
theorem dX12_restore_2 : decode cX12_restore 2 = .ok (.iconst 1, 1) := by decide +kernel
theorem dX12_restore_3 : decode cX12_restore 3 = .ok (.invokestatic 53, 3) := by decide +kernel
theorem dX12_restore_6 : decode cX12_restore 6 = .ok (.ifCond .ne 6, 3) := by decide +kernel
theorem dX12_restore_9 : decode cX12_restore 9 = .ok (.ldc 61, 2) := by decide +kernel
theorem dX12_restore_11 : decode cX12_restore 11 = .ok (.ireturn, 1) := by decide +kernel
theorem dX12_restore_12 : decode cX12_restore 12 = .ok (.aload_n 0, 1) := by decide +kernel
theorem dX12_restore_13 : decode cX12_restore 13 = .ok (.getfield 40, 3) := by decide +kernel
theorem dX12_restore_16 : decode cX12_restore 16 = .ok (.iload_n 1, 1) := by decide +kernel
theorem dX12_restore_17 : decode cX12_restore 17 = .ok (.baload, 1) := by decide +kernel
theorem dX12_restore_18 : decode cX12_restore 18 = .ok (.ifCond .ne 6, 3) := by decide +kernel
theorem dX12_restore_21 : decode cX12_restore 21 = .ok (.ldc 170, 2) := by decide +kernel
theorem dX12_restore_23 : decode cX12_restore 23 = .ok (.ireturn, 1) := by decide +kernel
theorem dX12_restore_24 : decode cX12_restore 24 = .ok (.aload_n 0, 1) := by decide +kernel
theorem dX12_restore_25 : decode cX12_restore 25 = .ok (.getfield 37, 3) := by decide +kernel
theorem dX12_restore_28 : decode cX12_restore 28 = .ok (.bipush 34, 2) := by decide +kernel
theorem dX12_restore_30 : decode cX12_restore 30 = .ok (.iload_n 1, 1) := by decide +kernel
theorem dX12_restore_31 : decode cX12_restore 31 = .ok (.imul, 1) := by decide +kernel
theorem dX12_restore_32 : decode cX12_restore 32 = .ok (.aload_n 0, 1) := by decide +kernel
theorem dX12_restore_33 : decode cX12_restore 33 = .ok (.getfield 25, 3) := by decide +kernel
theorem dX12_restore_36 : decode cX12_restore 36 = .ok (.iconst 0, 1) := by decide +kernel
theorem dX12_restore_37 : decode cX12_restore 37 = .ok (.invokestatic 128, 3) := by decide +kernel
theorem dX12_restore_40 : decode cX12_restore 40 = .ok (.aload_n 0, 1) := by decide +kernel
theorem dX12_restore_41 : decode cX12_restore 41 = .ok (.iconst 0, 1) := by decide +kernel
theorem dX12_restore_42 : decode cX12_restore 42 = .ok (.putfield 132, 3) := by decide +kernel
theorem dX12_restore_45 : decode cX12_restore 45 = .ok (.iconst 1, 1) := by decide +kernel
theorem dX12_restore_46 : decode cX12_restore 46 = .ok (.ireturn, 1) := by decide +kernel
theorem dX12_kindIn_0 : decode cX12_kindIn 0 = .ok (.aload_n 0, 1) := by decide +kernel
theorem dX12_kindIn_1 : decode cX12_kindIn 1 = .ok (.getfield 25, 3) := by decide +kernel
theorem dX12_kindIn_4 : decode cX12_kindIn 4 = .ok (.iconst 4, 1) := by decide +kernel
theorem dX12_kindIn_5 : decode cX12_kindIn 5 = .ok (.iconst 5, 1) := by decide +kernel
theorem dX12_kindIn_6 : decode cX12_kindIn 6 = .ok (.iload_n 1, 1) := by decide +kernel
theorem dX12_kindIn_7 : decode cX12_kindIn 7 = .ok (.imul, 1) := by decide +kernel
theorem dX12_kindIn_8 : decode cX12_kindIn 8 = .ok (.iadd, 1) := by decide +kernel
theorem dX12_kindIn_9 : decode cX12_kindIn 9 = .ok (.iaload, 1) := by decide +kernel
theorem dX12_kindIn_10 : decode cX12_kindIn 10 = .ok (.ireturn, 1) := by decide +kernel
theorem dX12_kind_0 : decode cX12_kind 0 = .ok (.aload_n 0, 1) := by decide +kernel
theorem dX12_kind_1 : decode cX12_kind 1 = .ok (.iload_n 1, 1) := by decide +kernel
theorem dX12_kind_2 : decode cX12_kind 2 = .ok (.invokevirtual 178, 3) := by decide +kernel
theorem dX12_kind_5 : decode cX12_kind 5 = .ok (.ifCond .eq 11, 3) := by decide +kernel
theorem dX12_kind_8 : decode cX12_kind 8 = .ok (.aload_n 0, 1) := by decide +kernel
theorem dX12_kind_9 : decode cX12_kind 9 = .ok (.iload_n 1, 1) := by decide +kernel
theorem dX12_kind_10 : decode cX12_kind 10 = .ok (.invokevirtual 211, 3) := by decide +kernel
theorem dX12_kind_13 : decode cX12_kind 13 = .ok (.goto 5, 3) := by decide +kernel
theorem dX12_kind_16 : decode cX12_kind 16 = .ok (.ldc 61, 2) := by decide +kernel
theorem dX12_kind_18 : decode cX12_kind 18 = .ok (.ireturn, 1) := by decide +kernel
theorem dX12_as_0 : decode cX12_as 0 = .ok (.aload_n 0, 1) := by decide +kernel
theorem dX12_as_1 : decode cX12_as 1 = .ok (.iload_n 1, 1) := by decide +kernel
theorem dX12_as_2 : decode cX12_as 2 = .ok (.invokevirtual 178, 3) := by decide +kernel
theorem dX12_as_5 : decode cX12_as 5 = .ok (.ifCond .eq 12, 3) := by decide +kernel
theorem dX12_as_8 : decode cX12_as 8 = .ok (.iload_n 2, 1) := by decide +kernel
theorem dX12_as_9 : decode cX12_as 9 = .ok (.iconst 0, 1) := by decide +kernel
theorem dX12_as_10 : decode cX12_as 10 = .ok (.iconst 5, 1) := by decide +kernel
theorem dX12_as_11 : decode cX12_as 11 = .ok (.invokestatic 53, 3) := by decide +kernel
theorem dX12_as_14 : decode cX12_as 14 = .ok (.ifCond .ne 6, 3) := by decide +kernel
theorem dX12_as_17 : decode cX12_as 17 = .ok (.ldc 61, 2) := by decide +kernel
theorem dX12_as_19 : decode cX12_as 19 = .ok (.ireturn, 1) := by decide +kernel
theorem dX12_as_20 : decode cX12_as 20 = .ok (.aload_n 0, 1) := by decide +kernel
theorem dX12_as_21 : decode cX12_as 21 = .ok (.iload_n 1, 1) := by decide +kernel
theorem dX12_as_22 : decode cX12_as 22 = .ok (.invokevirtual 211, 3) := by decide +kernel
theorem dX12_as_25 : decode cX12_as 25 = .ok (.istore_n 3, 1) := by decide +kernel
theorem dX12_as_26 : decode cX12_as 26 = .ok (.iload_n 2, 1) := by decide +kernel
theorem dX12_as_27 : decode cX12_as 27 = .ok (.ifCond .eq 28, 3) := by decide +kernel
theorem dX12_as_30 : decode cX12_as 30 = .ok (.iload_n 2, 1) := by decide +kernel
theorem dX12_as_31 : decode cX12_as 31 = .ok (.iload_n 3, 1) := by decide +kernel
theorem dX12_as_32 : decode cX12_as 32 = .ok (.if_icmp .eq 23, 3) := by decide +kernel
theorem dX12_as_35 : decode cX12_as 35 = .ok (.iload_n 2, 1) := by decide +kernel
theorem dX12_as_36 : decode cX12_as 36 = .ok (.iconst 1, 1) := by decide +kernel
theorem dX12_as_37 : decode cX12_as 37 = .ok (.if_icmp .ne 8, 3) := by decide +kernel
theorem dX12_as_40 : decode cX12_as 40 = .ok (.iload_n 3, 1) := by decide +kernel
theorem dX12_as_41 : decode cX12_as 41 = .ok (.iconst 4, 1) := by decide +kernel
theorem dX12_as_42 : decode cX12_as 42 = .ok (.if_icmp .lt 13, 3) := by decide +kernel
theorem dX12_as_45 : decode cX12_as 45 = .ok (.iload_n 2, 1) := by decide +kernel
theorem dX12_as_46 : decode cX12_as 46 = .ok (.iconst 4, 1) := by decide +kernel
theorem dX12_as_47 : decode cX12_as 47 = .ok (.if_icmp .ne 12, 3) := by decide +kernel
theorem dX12_as_50 : decode cX12_as 50 = .ok (.iload_n 3, 1) := by decide +kernel
theorem dX12_as_51 : decode cX12_as 51 = .ok (.iconst 5, 1) := by decide +kernel
theorem dX12_as_52 : decode cX12_as 52 = .ok (.if_icmp .ne 7, 3) := by decide +kernel
theorem dX12_as_55 : decode cX12_as 55 = .ok (.iconst 1, 1) := by decide +kernel
theorem dX12_as_56 : decode cX12_as 56 = .ok (.goto 4, 3) := by decide +kernel
theorem dX12_as_59 : decode cX12_as 59 = .ok (.iconst 0, 1) := by decide +kernel
theorem dX12_as_60 : decode cX12_as 60 = .ok (.istore 4, 2) := by decide +kernel
theorem dX12_as_62 : decode cX12_as 62 = .ok (.iload 4, 2) := by decide +kernel
theorem dX12_as_64 : decode cX12_as 64 = .ok (.ifCond .eq 11, 3) := by decide +kernel
theorem dX12_as_67 : decode cX12_as 67 = .ok (.aload_n 0, 1) := by decide +kernel
theorem dX12_as_68 : decode cX12_as 68 = .ok (.iload_n 1, 1) := by decide +kernel
theorem dX12_as_69 : decode cX12_as 69 = .ok (.invokevirtual 66, 3) := by decide +kernel
theorem dX12_as_72 : decode cX12_as 72 = .ok (.goto 8, 3) := by decide +kernel
theorem dX12_as_75 : decode cX12_as 75 = .ok (.aload_n 0, 1) := by decide +kernel
theorem dX12_as_76 : decode cX12_as 76 = .ok (.iconst 3, 1) := by decide +kernel
theorem dX12_as_77 : decode cX12_as 77 = .ok (.invokevirtual 62, 3) := by decide +kernel
theorem dX12_as_80 : decode cX12_as 80 = .ok (.ireturn, 1) := by decide +kernel
theorem dX12_begins_0 : decode cX12_begins 0 = .ok (.aload_n 0, 1) := by decide +kernel
theorem dX12_begins_1 : decode cX12_begins 1 = .ok (.getfield 214, 3) := by decide +kernel
theorem dX12_begins_4 : decode cX12_begins 4 = .ok (.bipush 16, 2) := by decide +kernel
theorem dX12_begins_6 : decode cX12_begins 6 = .ok (.if_icmp .ge 23, 3) := by decide +kernel
theorem dX12_begins_9 : decode cX12_begins 9 = .ok (.aload_n 0, 1) := by decide +kernel
theorem dX12_begins_10 : decode cX12_begins 10 = .ok (.getfield 44, 3) := by decide +kernel
theorem dX12_begins_13 : decode cX12_begins 13 = .ok (.aload_n 0, 1) := by decide +kernel
theorem dX12_begins_14 : decode cX12_begins 14 = .ok (.getfield 214, 3) := by decide +kernel
theorem dX12_begins_17 : decode cX12_begins 17 = .ok (.iload_n 1, 1) := by decide +kernel
theorem dX12_begins_18 : decode cX12_begins 18 = .ok (.iastore, 1) := by decide +kernel
theorem dX12_begins_19 : decode cX12_begins 19 = .ok (.aload_n 0, 1) := by decide +kernel
theorem dX12_begins_20 : decode cX12_begins 20 = .ok (.dup, 1) := by decide +kernel
theorem dX12_begins_21 : decode cX12_begins 21 = .ok (.getfield 214, 3) := by decide +kernel
theorem dX12_begins_24 : decode cX12_begins 24 = .ok (.iconst 1, 1) := by decide +kernel
theorem dX12_begins_25 : decode cX12_begins 25 = .ok (.iadd, 1) := by decide +kernel
theorem dX12_begins_26 : decode cX12_begins 26 = .ok (.putfield 214, 3) := by decide +kernel
theorem dX12_begins_29 : decode cX12_begins 29 = .ok (.return_, 1) := by decide +kernel
theorem dX12_plainMark_0 : decode cX12_plainMark 0 = .ok (.aload_n 0, 1) := by decide +kernel
theorem dX12_plainMark_1 : decode cX12_plainMark 1 = .ok (.iload_n 1, 1) := by decide +kernel
theorem dX12_plainMark_2 : decode cX12_plainMark 2 = .ok (.invokevirtual 211, 3) := by decide +kernel
theorem dX12_plainMark_5 : decode cX12_plainMark 5 = .ok (.istore_n 2, 1) := by decide +kernel
theorem dX12_plainMark_6 : decode cX12_plainMark 6 = .ok (.iload_n 2, 1) := by decide +kernel
theorem dX12_plainMark_7 : decode cX12_plainMark 7 = .ok (.iconst 1, 1) := by decide +kernel
theorem dX12_plainMark_8 : decode cX12_plainMark 8 = .ok (.if_icmp .eq 19, 3) := by decide +kernel
theorem dX12_plainMark_11 : decode cX12_plainMark 11 = .ok (.aload_n 0, 1) := by decide +kernel
theorem dX12_plainMark_12 : decode cX12_plainMark 12 = .ok (.iload_n 2, 1) := by decide +kernel
theorem dX12_plainMark_13 : decode cX12_plainMark 13 = .ok (.iconst 2, 1) := by decide +kernel
theorem dX12_plainMark_14 : decode cX12_plainMark 14 = .ok (.if_icmp .ne 8, 3) := by decide +kernel
theorem dX12_plainMark_17 : decode cX12_plainMark 17 = .ok (.bipush 24, 2) := by decide +kernel
theorem dX12_plainMark_19 : decode cX12_plainMark 19 = .ok (.goto 5, 3) := by decide +kernel
theorem dX12_plainMark_22 : decode cX12_plainMark 22 = .ok (.bipush 22, 2) := by decide +kernel
theorem dX12_plainMark_24 : decode cX12_plainMark 24 = .ok (.invokevirtual 217, 3) := by decide +kernel
theorem dX12_plainMark_27 : decode cX12_plainMark 27 = .ok (.aload_n 0, 1) := by decide +kernel
theorem dX12_plainMark_28 : decode cX12_plainMark 28 = .ok (.bipush 21, 2) := by decide +kernel
theorem dX12_plainMark_30 : decode cX12_plainMark 30 = .ok (.invokevirtual 217, 3) := by decide +kernel
theorem dX12_plainMark_33 : decode cX12_plainMark 33 = .ok (.aload_n 0, 1) := by decide +kernel
theorem dX12_plainMark_34 : decode cX12_plainMark 34 = .ok (.bipush 20, 2) := by decide +kernel
theorem dX12_plainMark_36 : decode cX12_plainMark 36 = .ok (.invokevirtual 217, 3) := by decide +kernel
theorem dX12_plainMark_39 : decode cX12_plainMark 39 = .ok (.iload_n 1, 1) := by decide +kernel
theorem dX12_plainMark_40 : decode cX12_plainMark 40 = .ok (.aload_n 0, 1) := by decide +kernel
theorem dX12_plainMark_41 : decode cX12_plainMark 41 = .ok (.getfield 25, 3) := by decide +kernel
theorem dX12_plainMark_44 : decode cX12_plainMark 44 = .ok (.iconst 4, 1) := by decide +kernel
theorem dX12_plainMark_45 : decode cX12_plainMark 45 = .ok (.iconst 5, 1) := by decide +kernel
theorem dX12_plainMark_46 : decode cX12_plainMark 46 = .ok (.iload_n 1, 1) := by decide +kernel
theorem dX12_plainMark_47 : decode cX12_plainMark 47 = .ok (.imul, 1) := by decide +kernel
theorem dX12_plainMark_48 : decode cX12_plainMark 48 = .ok (.iadd, 1) := by decide +kernel
theorem dX12_plainMark_49 : decode cX12_plainMark 49 = .ok (.iconst 4, 1) := by decide +kernel
theorem dX12_plainMark_50 : decode cX12_plainMark 50 = .ok (.iadd, 1) := by decide +kernel
theorem dX12_plainMark_51 : decode cX12_plainMark 51 = .ok (.iaload, 1) := by decide +kernel
theorem dX12_plainMark_52 : decode cX12_plainMark 52 = .ok (.iadd, 1) := by decide +kernel
theorem dX12_plainMark_53 : decode cX12_plainMark 53 = .ok (.istore_n 3, 1) := by decide +kernel
theorem dX12_plainMark_54 : decode cX12_plainMark 54 = .ok (.iload_n 2, 1) := by decide +kernel
theorem dX12_plainMark_55 : decode cX12_plainMark 55 = .ok (.iconst 2, 1) := by decide +kernel
theorem dX12_plainMark_56 : decode cX12_plainMark 56 = .ok (.if_icmp .ne 9, 3) := by decide +kernel
theorem dX12_plainMark_59 : decode cX12_plainMark 59 = .ok (.iconst 2, 1) := by decide +kernel
theorem dX12_plainMark_60 : decode cX12_plainMark 60 = .ok (.iload_n 3, 1) := by decide +kernel
theorem dX12_plainMark_61 : decode cX12_plainMark 61 = .ok (.imul, 1) := by decide +kernel
theorem dX12_plainMark_62 : decode cX12_plainMark 62 = .ok (.goto 17, 3) := by decide +kernel
theorem dX12_plainMark_65 : decode cX12_plainMark 65 = .ok (.iload_n 2, 1) := by decide +kernel
theorem dX12_plainMark_66 : decode cX12_plainMark 66 = .ok (.iconst 3, 1) := by decide +kernel
theorem dX12_plainMark_67 : decode cX12_plainMark 67 = .ok (.if_icmp .ne 11, 3) := by decide +kernel
theorem dX12_plainMark_70 : decode cX12_plainMark 70 = .ok (.iload_n 3, 1) := by decide +kernel
theorem dX12_plainMark_71 : decode cX12_plainMark 71 = .ok (.sipush 1000, 3) := by decide +kernel
theorem dX12_plainMark_74 : decode cX12_plainMark 74 = .ok (.isub, 1) := by decide +kernel
theorem dX12_plainMark_75 : decode cX12_plainMark 75 = .ok (.goto 4, 3) := by decide +kernel
theorem dX12_plainMark_78 : decode cX12_plainMark 78 = .ok (.iload_n 3, 1) := by decide +kernel
theorem dX12_plainMark_79 : decode cX12_plainMark 79 = .ok (.ireturn, 1) := by decide +kernel
theorem dX12_childSize_0 : decode cX12_childSize 0 = .ok (.aload_n 0, 1) := by decide +kernel
theorem dX12_childSize_1 : decode cX12_childSize 1 = .ok (.iload_n 1, 1) := by decide +kernel
theorem dX12_childSize_2 : decode cX12_childSize 2 = .ok (.invokevirtual 211, 3) := by decide +kernel
theorem dX12_childSize_5 : decode cX12_childSize 5 = .ok (.iconst 5, 1) := by decide +kernel
theorem dX12_childSize_6 : decode cX12_childSize 6 = .ok (.if_icmp .ne 7, 3) := by decide +kernel
theorem dX12_childSize_9 : decode cX12_childSize 9 = .ok (.iconst 1, 1) := by decide +kernel
theorem dX12_childSize_10 : decode cX12_childSize 10 = .ok (.goto 4, 3) := by decide +kernel
theorem dX12_childSize_13 : decode cX12_childSize 13 = .ok (.iconst 0, 1) := by decide +kernel
theorem dX12_childSize_14 : decode cX12_childSize 14 = .ok (.istore_n 2, 1) := by decide +kernel
theorem dX12_childSize_15 : decode cX12_childSize 15 = .ok (.iload_n 2, 1) := by decide +kernel
theorem dX12_childSize_16 : decode cX12_childSize 16 = .ok (.ifCond .eq 9, 3) := by decide +kernel
theorem dX12_childSize_19 : decode cX12_childSize 19 = .ok (.aload_n 0, 1) := by decide +kernel
theorem dX12_childSize_20 : decode cX12_childSize 20 = .ok (.bipush 14, 2) := by decide +kernel
theorem dX12_childSize_22 : decode cX12_childSize 22 = .ok (.invokevirtual 217, 3) := by decide +kernel
theorem dX12_childSize_25 : decode cX12_childSize 25 = .ok (.aload_n 0, 1) := by decide +kernel
theorem dX12_childSize_26 : decode cX12_childSize 26 = .ok (.bipush 13, 2) := by decide +kernel
theorem dX12_childSize_28 : decode cX12_childSize 28 = .ok (.invokevirtual 217, 3) := by decide +kernel
theorem dX12_childSize_31 : decode cX12_childSize 31 = .ok (.aload_n 0, 1) := by decide +kernel
theorem dX12_childSize_32 : decode cX12_childSize 32 = .ok (.bipush 10, 2) := by decide +kernel
theorem dX12_childSize_34 : decode cX12_childSize 34 = .ok (.invokevirtual 217, 3) := by decide +kernel
theorem dX12_childSize_37 : decode cX12_childSize 37 = .ok (.aload_n 0, 1) := by decide +kernel
theorem dX12_childSize_38 : decode cX12_childSize 38 = .ok (.getfield 25, 3) := by decide +kernel
theorem dX12_childSize_41 : decode cX12_childSize 41 = .ok (.iconst 4, 1) := by decide +kernel
theorem dX12_childSize_42 : decode cX12_childSize 42 = .ok (.iconst 5, 1) := by decide +kernel
theorem dX12_childSize_43 : decode cX12_childSize 43 = .ok (.iload_n 1, 1) := by decide +kernel
theorem dX12_childSize_44 : decode cX12_childSize 44 = .ok (.imul, 1) := by decide +kernel
theorem dX12_childSize_45 : decode cX12_childSize 45 = .ok (.iadd, 1) := by decide +kernel
theorem dX12_childSize_46 : decode cX12_childSize 46 = .ok (.iconst 2, 1) := by decide +kernel
theorem dX12_childSize_47 : decode cX12_childSize 47 = .ok (.iadd, 1) := by decide +kernel
theorem dX12_childSize_48 : decode cX12_childSize 48 = .ok (.iaload, 1) := by decide +kernel
theorem dX12_childSize_49 : decode cX12_childSize 49 = .ok (.bipush 100, 2) := by decide +kernel
theorem dX12_childSize_51 : decode cX12_childSize 51 = .ok (.isub, 1) := by decide +kernel
theorem dX12_childSize_52 : decode cX12_childSize 52 = .ok (.istore_n 3, 1) := by decide +kernel
theorem dX12_childSize_53 : decode cX12_childSize 53 = .ok (.iload_n 2, 1) := by decide +kernel
theorem dX12_childSize_54 : decode cX12_childSize 54 = .ok (.ifCond .eq 9, 3) := by decide +kernel
theorem dX12_childSize_57 : decode cX12_childSize 57 = .ok (.iconst 2, 1) := by decide +kernel
theorem dX12_childSize_58 : decode cX12_childSize 58 = .ok (.iload_n 3, 1) := by decide +kernel
theorem dX12_childSize_59 : decode cX12_childSize 59 = .ok (.imul, 1) := by decide +kernel
theorem dX12_childSize_60 : decode cX12_childSize 60 = .ok (.goto 4, 3) := by decide +kernel
theorem dX12_childSize_63 : decode cX12_childSize 63 = .ok (.iload_n 3, 1) := by decide +kernel
theorem dX12_childSize_64 : decode cX12_childSize 64 = .ok (.ireturn, 1) := by decide +kernel
theorem dX12_plainSize_0 : decode cX12_plainSize 0 = .ok (.aload_n 0, 1) := by decide +kernel
theorem dX12_plainSize_1 : decode cX12_plainSize 1 = .ok (.iload_n 1, 1) := by decide +kernel
theorem dX12_plainSize_2 : decode cX12_plainSize 2 = .ok (.invokevirtual 211, 3) := by decide +kernel
theorem dX12_plainSize_5 : decode cX12_plainSize 5 = .ok (.iconst 2, 1) := by decide +kernel
theorem dX12_plainSize_6 : decode cX12_plainSize 6 = .ok (.if_icmp .ne 7, 3) := by decide +kernel
theorem dX12_plainSize_9 : decode cX12_plainSize 9 = .ok (.iconst 1, 1) := by decide +kernel
theorem dX12_plainSize_10 : decode cX12_plainSize 10 = .ok (.goto 4, 3) := by decide +kernel
theorem dX12_plainSize_13 : decode cX12_plainSize 13 = .ok (.iconst 0, 1) := by decide +kernel
theorem dX12_plainSize_14 : decode cX12_plainSize 14 = .ok (.istore_n 2, 1) := by decide +kernel
theorem dX12_plainSize_15 : decode cX12_plainSize 15 = .ok (.iload_n 2, 1) := by decide +kernel
theorem dX12_plainSize_16 : decode cX12_plainSize 16 = .ok (.ifCond .eq 9, 3) := by decide +kernel
theorem dX12_plainSize_19 : decode cX12_plainSize 19 = .ok (.aload_n 0, 1) := by decide +kernel
theorem dX12_plainSize_20 : decode cX12_plainSize 20 = .ok (.bipush 12, 2) := by decide +kernel
theorem dX12_plainSize_22 : decode cX12_plainSize 22 = .ok (.invokevirtual 217, 3) := by decide +kernel
theorem dX12_plainSize_25 : decode cX12_plainSize 25 = .ok (.aload_n 0, 1) := by decide +kernel
theorem dX12_plainSize_26 : decode cX12_plainSize 26 = .ok (.bipush 11, 2) := by decide +kernel
theorem dX12_plainSize_28 : decode cX12_plainSize 28 = .ok (.invokevirtual 217, 3) := by decide +kernel
theorem dX12_plainSize_31 : decode cX12_plainSize 31 = .ok (.aload_n 0, 1) := by decide +kernel
theorem dX12_plainSize_32 : decode cX12_plainSize 32 = .ok (.bipush 10, 2) := by decide +kernel
theorem dX12_plainSize_34 : decode cX12_plainSize 34 = .ok (.invokevirtual 217, 3) := by decide +kernel
theorem dX12_plainSize_37 : decode cX12_plainSize 37 = .ok (.aload_n 0, 1) := by decide +kernel
theorem dX12_plainSize_38 : decode cX12_plainSize 38 = .ok (.getfield 25, 3) := by decide +kernel
theorem dX12_plainSize_41 : decode cX12_plainSize 41 = .ok (.iconst 4, 1) := by decide +kernel
theorem dX12_plainSize_42 : decode cX12_plainSize 42 = .ok (.iconst 5, 1) := by decide +kernel
theorem dX12_plainSize_43 : decode cX12_plainSize 43 = .ok (.iload_n 1, 1) := by decide +kernel
theorem dX12_plainSize_44 : decode cX12_plainSize 44 = .ok (.imul, 1) := by decide +kernel
theorem dX12_plainSize_45 : decode cX12_plainSize 45 = .ok (.iadd, 1) := by decide +kernel
theorem dX12_plainSize_46 : decode cX12_plainSize 46 = .ok (.iconst 2, 1) := by decide +kernel
theorem dX12_plainSize_47 : decode cX12_plainSize 47 = .ok (.iadd, 1) := by decide +kernel
theorem dX12_plainSize_48 : decode cX12_plainSize 48 = .ok (.iaload, 1) := by decide +kernel
theorem dX12_plainSize_49 : decode cX12_plainSize 49 = .ok (.aload_n 0, 1) := by decide +kernel
theorem dX12_plainSize_50 : decode cX12_plainSize 50 = .ok (.iload_n 1, 1) := by decide +kernel
theorem dX12_plainSize_51 : decode cX12_plainSize 51 = .ok (.invokevirtual 220, 3) := by decide +kernel
theorem dX12_plainSize_54 : decode cX12_plainSize 54 = .ok (.iadd, 1) := by decide +kernel
theorem dX12_plainSize_55 : decode cX12_plainSize 55 = .ok (.istore_n 3, 1) := by decide +kernel
theorem dX12_plainSize_56 : decode cX12_plainSize 56 = .ok (.iload_n 2, 1) := by decide +kernel
theorem dX12_plainSize_57 : decode cX12_plainSize 57 = .ok (.ifCond .eq 8, 3) := by decide +kernel
theorem dX12_plainSize_60 : decode cX12_plainSize 60 = .ok (.iload_n 3, 1) := by decide +kernel
theorem dX12_plainSize_61 : decode cX12_plainSize 61 = .ok (.ineg, 1) := by decide +kernel
theorem dX12_plainSize_62 : decode cX12_plainSize 62 = .ok (.goto 4, 3) := by decide +kernel
theorem dX12_plainSize_65 : decode cX12_plainSize 65 = .ok (.iload_n 3, 1) := by decide +kernel
theorem dX12_plainSize_66 : decode cX12_plainSize 66 = .ok (.ireturn, 1) := by decide +kernel
theorem dX12_childMark_0 : decode cX12_childMark 0 = .ok (.aload_n 0, 1) := by decide +kernel
theorem dX12_childMark_1 : decode cX12_childMark 1 = .ok (.bipush 23, 2) := by decide +kernel
theorem dX12_childMark_3 : decode cX12_childMark 3 = .ok (.invokevirtual 217, 3) := by decide +kernel
theorem dX12_childMark_6 : decode cX12_childMark 6 = .ok (.aload_n 0, 1) := by decide +kernel
theorem dX12_childMark_7 : decode cX12_childMark 7 = .ok (.bipush 20, 2) := by decide +kernel
theorem dX12_childMark_9 : decode cX12_childMark 9 = .ok (.invokevirtual 217, 3) := by decide +kernel
theorem dX12_childMark_12 : decode cX12_childMark 12 = .ok (.iload_n 1, 1) := by decide +kernel
theorem dX12_childMark_13 : decode cX12_childMark 13 = .ok (.aload_n 0, 1) := by decide +kernel
theorem dX12_childMark_14 : decode cX12_childMark 14 = .ok (.iload_n 1, 1) := by decide +kernel
theorem dX12_childMark_15 : decode cX12_childMark 15 = .ok (.invokevirtual 223, 3) := by decide +kernel
theorem dX12_childMark_18 : decode cX12_childMark 18 = .ok (.isub, 1) := by decide +kernel
theorem dX12_childMark_19 : decode cX12_childMark 19 = .ok (.ireturn, 1) := by decide +kernel
theorem dX12_ask_0 : decode cX12_ask 0 = .ok (.aload_n 0, 1) := by decide +kernel
theorem dX12_ask_1 : decode cX12_ask 1 = .ok (.iload_n 1, 1) := by decide +kernel
theorem dX12_ask_2 : decode cX12_ask 2 = .ok (.invokevirtual 178, 3) := by decide +kernel
theorem dX12_ask_5 : decode cX12_ask 5 = .ok (.ifCond .eq 12, 3) := by decide +kernel
theorem dX12_ask_8 : decode cX12_ask 8 = .ok (.iload_n 2, 1) := by decide +kernel
theorem dX12_ask_9 : decode cX12_ask 9 = .ok (.iconst 0, 1) := by decide +kernel
theorem dX12_ask_10 : decode cX12_ask 10 = .ok (.iconst 1, 1) := by decide +kernel
theorem dX12_ask_11 : decode cX12_ask 11 = .ok (.invokestatic 53, 3) := by decide +kernel
theorem dX12_ask_14 : decode cX12_ask 14 = .ok (.ifCond .ne 6, 3) := by decide +kernel
theorem dX12_ask_17 : decode cX12_ask 17 = .ok (.ldc 61, 2) := by decide +kernel
theorem dX12_ask_19 : decode cX12_ask 19 = .ok (.ireturn, 1) := by decide +kernel
theorem dX12_ask_20 : decode cX12_ask 20 = .ok (.aload_n 0, 1) := by decide +kernel
theorem dX12_ask_21 : decode cX12_ask 21 = .ok (.iconst 0, 1) := by decide +kernel
theorem dX12_ask_22 : decode cX12_ask 22 = .ok (.putfield 214, 3) := by decide +kernel
theorem dX12_ask_25 : decode cX12_ask 25 = .ok (.aload_n 0, 1) := by decide +kernel
theorem dX12_ask_26 : decode cX12_ask 26 = .ok (.iload_n 1, 1) := by decide +kernel
theorem dX12_ask_27 : decode cX12_ask 27 = .ok (.invokevirtual 211, 3) := by decide +kernel
theorem dX12_ask_30 : decode cX12_ask 30 = .ok (.iconst 4, 1) := by decide +kernel
theorem dX12_ask_31 : decode cX12_ask 31 = .ok (.if_icmp .lt 7, 3) := by decide +kernel
theorem dX12_ask_34 : decode cX12_ask 34 = .ok (.iconst 1, 1) := by decide +kernel
theorem dX12_ask_35 : decode cX12_ask 35 = .ok (.goto 4, 3) := by decide +kernel
theorem dX12_ask_38 : decode cX12_ask 38 = .ok (.iconst 0, 1) := by decide +kernel
theorem dX12_ask_39 : decode cX12_ask 39 = .ok (.istore_n 3, 1) := by decide +kernel
theorem dX12_ask_40 : decode cX12_ask 40 = .ok (.iload_n 2, 1) := by decide +kernel
theorem dX12_ask_41 : decode cX12_ask 41 = .ok (.ifCond .ne 21, 3) := by decide +kernel
theorem dX12_ask_44 : decode cX12_ask 44 = .ok (.iload_n 3, 1) := by decide +kernel
theorem dX12_ask_45 : decode cX12_ask 45 = .ok (.ifCond .eq 11, 3) := by decide +kernel
theorem dX12_ask_48 : decode cX12_ask 48 = .ok (.aload_n 0, 1) := by decide +kernel
theorem dX12_ask_49 : decode cX12_ask 49 = .ok (.iload_n 1, 1) := by decide +kernel
theorem dX12_ask_50 : decode cX12_ask 50 = .ok (.invokevirtual 223, 3) := by decide +kernel
theorem dX12_ask_53 : decode cX12_ask 53 = .ok (.goto 8, 3) := by decide +kernel
theorem dX12_ask_56 : decode cX12_ask 56 = .ok (.aload_n 0, 1) := by decide +kernel
theorem dX12_ask_57 : decode cX12_ask 57 = .ok (.iload_n 1, 1) := by decide +kernel
theorem dX12_ask_58 : decode cX12_ask 58 = .ok (.invokevirtual 226, 3) := by decide +kernel
theorem dX12_ask_61 : decode cX12_ask 61 = .ok (.ireturn, 1) := by decide +kernel
theorem dX12_ask_62 : decode cX12_ask 62 = .ok (.iload_n 3, 1) := by decide +kernel
theorem dX12_ask_63 : decode cX12_ask 63 = .ok (.ifCond .eq 11, 3) := by decide +kernel
theorem dX12_ask_66 : decode cX12_ask 66 = .ok (.aload_n 0, 1) := by decide +kernel
theorem dX12_ask_67 : decode cX12_ask 67 = .ok (.iload_n 1, 1) := by decide +kernel
theorem dX12_ask_68 : decode cX12_ask 68 = .ok (.invokevirtual 229, 3) := by decide +kernel
theorem dX12_ask_71 : decode cX12_ask 71 = .ok (.goto 8, 3) := by decide +kernel
theorem dX12_ask_74 : decode cX12_ask 74 = .ok (.aload_n 0, 1) := by decide +kernel
theorem dX12_ask_75 : decode cX12_ask 75 = .ok (.iload_n 1, 1) := by decide +kernel
theorem dX12_ask_76 : decode cX12_ask 76 = .ok (.invokevirtual 220, 3) := by decide +kernel
theorem dX12_ask_79 : decode cX12_ask 79 = .ok (.ireturn, 1) := by decide +kernel
theorem dX12_trace_0 : decode cX12_trace 0 = .ok (.iload_n 1, 1) := by decide +kernel
theorem dX12_trace_1 : decode cX12_trace 1 = .ok (.iconst 0, 1) := by decide +kernel
theorem dX12_trace_2 : decode cX12_trace 2 = .ok (.aload_n 0, 1) := by decide +kernel
theorem dX12_trace_3 : decode cX12_trace 3 = .ok (.getfield 214, 3) := by decide +kernel
theorem dX12_trace_6 : decode cX12_trace 6 = .ok (.iconst 1, 1) := by decide +kernel
theorem dX12_trace_7 : decode cX12_trace 7 = .ok (.isub, 1) := by decide +kernel
theorem dX12_trace_8 : decode cX12_trace 8 = .ok (.invokestatic 53, 3) := by decide +kernel
theorem dX12_trace_11 : decode cX12_trace 11 = .ok (.ifCond .eq 12, 3) := by decide +kernel
theorem dX12_trace_14 : decode cX12_trace 14 = .ok (.aload_n 0, 1) := by decide +kernel
theorem dX12_trace_15 : decode cX12_trace 15 = .ok (.getfield 44, 3) := by decide +kernel
theorem dX12_trace_18 : decode cX12_trace 18 = .ok (.iload_n 1, 1) := by decide +kernel
theorem dX12_trace_19 : decode cX12_trace 19 = .ok (.iaload, 1) := by decide +kernel
theorem dX12_trace_20 : decode cX12_trace 20 = .ok (.goto 5, 3) := by decide +kernel
theorem dX12_trace_23 : decode cX12_trace 23 = .ok (.ldc 47, 2) := by decide +kernel
theorem dX12_trace_25 : decode cX12_trace 25 = .ok (.ireturn, 1) := by decide +kernel
theorem dX12_count_0 : decode cX12_count 0 = .ok (.iconst 0, 1) := by decide +kernel
theorem dX12_count_1 : decode cX12_count 1 = .ok (.istore_n 2, 1) := by decide +kernel
theorem dX12_count_2 : decode cX12_count 2 = .ok (.iload_n 1, 1) := by decide +kernel
theorem dX12_count_3 : decode cX12_count 3 = .ok (.tableswitch 123 0 7 #[45, 77, 84, 91, 98, 105, 113, 118], 45) := by decide +kernel
theorem dX12_count_48 : decode cX12_count 48 = .ok (.iconst 0, 1) := by decide +kernel
theorem dX12_count_49 : decode cX12_count 49 = .ok (.istore_n 3, 1) := by decide +kernel
theorem dX12_count_50 : decode cX12_count 50 = .ok (.iload_n 3, 1) := by decide +kernel
theorem dX12_count_51 : decode cX12_count 51 = .ok (.bipush 8, 2) := by decide +kernel
theorem dX12_count_53 : decode cX12_count 53 = .ok (.if_icmp .ge 25, 3) := by decide +kernel
theorem dX12_count_56 : decode cX12_count 56 = .ok (.iload_n 2, 1) := by decide +kernel
theorem dX12_count_57 : decode cX12_count 57 = .ok (.aload_n 0, 1) := by decide +kernel
theorem dX12_count_58 : decode cX12_count 58 = .ok (.iload_n 3, 1) := by decide +kernel
theorem dX12_count_59 : decode cX12_count 59 = .ok (.invokevirtual 69, 3) := by decide +kernel
theorem dX12_count_62 : decode cX12_count 62 = .ok (.ifCond .eq 7, 3) := by decide +kernel
theorem dX12_count_65 : decode cX12_count 65 = .ok (.iconst 0, 1) := by decide +kernel
theorem dX12_count_66 : decode cX12_count 66 = .ok (.goto 4, 3) := by decide +kernel
theorem dX12_count_69 : decode cX12_count 69 = .ok (.iconst 1, 1) := by decide +kernel
theorem dX12_count_70 : decode cX12_count 70 = .ok (.iadd, 1) := by decide +kernel
theorem dX12_count_71 : decode cX12_count 71 = .ok (.istore_n 2, 1) := by decide +kernel
theorem dX12_count_72 : decode cX12_count 72 = .ok (.iinc 3 1, 3) := by decide +kernel
theorem dX12_count_75 : decode cX12_count 75 = .ok (.goto (-25), 3) := by decide +kernel
theorem dX12_count_78 : decode cX12_count 78 = .ok (.iload_n 2, 1) := by decide +kernel
theorem dX12_count_79 : decode cX12_count 79 = .ok (.ireturn, 1) := by decide +kernel
theorem dX12_count_80 : decode cX12_count 80 = .ok (.aload_n 0, 1) := by decide +kernel
theorem dX12_count_81 : decode cX12_count 81 = .ok (.getfield 25, 3) := by decide +kernel
theorem dX12_count_84 : decode cX12_count 84 = .ok (.iconst 0, 1) := by decide +kernel
theorem dX12_count_85 : decode cX12_count 85 = .ok (.iaload, 1) := by decide +kernel
theorem dX12_count_86 : decode cX12_count 86 = .ok (.ireturn, 1) := by decide +kernel
theorem dX12_count_87 : decode cX12_count 87 = .ok (.aload_n 0, 1) := by decide +kernel
theorem dX12_count_88 : decode cX12_count 88 = .ok (.getfield 25, 3) := by decide +kernel
theorem dX12_count_91 : decode cX12_count 91 = .ok (.iconst 3, 1) := by decide +kernel
theorem dX12_count_92 : decode cX12_count 92 = .ok (.iaload, 1) := by decide +kernel
theorem dX12_count_93 : decode cX12_count 93 = .ok (.ireturn, 1) := by decide +kernel
theorem dX12_count_94 : decode cX12_count 94 = .ok (.aload_n 0, 1) := by decide +kernel
theorem dX12_count_95 : decode cX12_count 95 = .ok (.getfield 25, 3) := by decide +kernel
theorem dX12_count_98 : decode cX12_count 98 = .ok (.iconst 2, 1) := by decide +kernel
theorem dX12_count_99 : decode cX12_count 99 = .ok (.iaload, 1) := by decide +kernel
theorem dX12_count_100 : decode cX12_count 100 = .ok (.ireturn, 1) := by decide +kernel
theorem dX12_count_101 : decode cX12_count 101 = .ok (.aload_n 0, 1) := by decide +kernel
theorem dX12_count_102 : decode cX12_count 102 = .ok (.getfield 25, 3) := by decide +kernel
theorem dX12_count_105 : decode cX12_count 105 = .ok (.iconst 1, 1) := by decide +kernel
theorem dX12_count_106 : decode cX12_count 106 = .ok (.iaload, 1) := by decide +kernel
theorem dX12_count_107 : decode cX12_count 107 = .ok (.ireturn, 1) := by decide +kernel
theorem dX12_count_108 : decode cX12_count 108 = .ok (.aload_n 0, 1) := by decide +kernel
theorem dX12_count_109 : decode cX12_count 109 = .ok (.getfield 25, 3) := by decide +kernel
theorem dX12_count_112 : decode cX12_count 112 = .ok (.invokestatic 174, 3) := by decide +kernel
theorem dX12_count_115 : decode cX12_count 115 = .ok (.ireturn, 1) := by decide +kernel
theorem dX12_count_116 : decode cX12_count 116 = .ok (.aload_n 0, 1) := by decide +kernel
theorem dX12_count_117 : decode cX12_count 117 = .ok (.getfield 132, 3) := by decide +kernel
theorem dX12_count_120 : decode cX12_count 120 = .ok (.ireturn, 1) := by decide +kernel
theorem dX12_count_121 : decode cX12_count 121 = .ok (.aload_n 0, 1) := by decide +kernel
theorem dX12_count_122 : decode cX12_count 122 = .ok (.getfield 79, 3) := by decide +kernel
theorem dX12_count_125 : decode cX12_count 125 = .ok (.ireturn, 1) := by decide +kernel
theorem dX12_count_126 : decode cX12_count 126 = .ok (.ldc 61, 2) := by decide +kernel
theorem dX12_count_128 : decode cX12_count 128 = .ok (.ireturn, 1) := by decide +kernel
theorem dX12_status_0 : decode cX12_status 0 = .ok (.aload_n 0, 1) := by decide +kernel
theorem dX12_status_1 : decode cX12_status 1 = .ok (.getfield 48, 3) := by decide +kernel
theorem dX12_status_4 : decode cX12_status 4 = .ok (.ireturn, 1) := by decide +kernel
