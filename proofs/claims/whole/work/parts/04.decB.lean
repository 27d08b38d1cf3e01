theorem dX11_init_0 : decode cX11_init 0 = .ok (.aload_n 0, 1) := by decide +kernel
theorem dX11_init_1 : decode cX11_init 1 = .ok (.invokespecial 1, 3) := by decide +kernel
theorem dX11_init_4 : decode cX11_init 4 = .ok (.iconst 5, 1) := by decide +kernel
theorem dX11_init_5 : decode cX11_init 5 = .ok (.anewarray 7, 3) := by decide +kernel
theorem dX11_init_8 : decode cX11_init 8 = .ok (.dup, 1) := by decide +kernel
theorem dX11_init_9 : decode cX11_init 9 = .ok (.iconst 0, 1) := by decide +kernel
theorem dX11_init_10 : decode cX11_init 10 = .ok (.new 9, 3) := by decide +kernel
theorem dX11_init_13 : decode cX11_init 13 = .ok (.dup, 1) := by decide +kernel
theorem dX11_init_14 : decode cX11_init 14 = .ok (.invokespecial 11, 3) := by decide +kernel
theorem dX11_init_17 : decode cX11_init 17 = .ok (.aastore, 1) := by decide +kernel
theorem dX11_init_18 : decode cX11_init 18 = .ok (.dup, 1) := by decide +kernel
theorem dX11_init_19 : decode cX11_init 19 = .ok (.iconst 1, 1) := by decide +kernel
theorem dX11_init_20 : decode cX11_init 20 = .ok (.new 12, 3) := by decide +kernel
theorem dX11_init_23 : decode cX11_init 23 = .ok (.dup, 1) := by decide +kernel
theorem dX11_init_24 : decode cX11_init 24 = .ok (.invokespecial 14, 3) := by decide +kernel
theorem dX11_init_27 : decode cX11_init 27 = .ok (.aastore, 1) := by decide +kernel
theorem dX11_init_28 : decode cX11_init 28 = .ok (.dup, 1) := by decide +kernel
theorem dX11_init_29 : decode cX11_init 29 = .ok (.iconst 2, 1) := by decide +kernel
theorem dX11_init_30 : decode cX11_init 30 = .ok (.new 15, 3) := by decide +kernel
theorem dX11_init_33 : decode cX11_init 33 = .ok (.dup, 1) := by decide +kernel
theorem dX11_init_34 : decode cX11_init 34 = .ok (.invokespecial 17, 3) := by decide +kernel
theorem dX11_init_37 : decode cX11_init 37 = .ok (.aastore, 1) := by decide +kernel
theorem dX11_init_38 : decode cX11_init 38 = .ok (.dup, 1) := by decide +kernel
theorem dX11_init_39 : decode cX11_init 39 = .ok (.iconst 3, 1) := by decide +kernel
theorem dX11_init_40 : decode cX11_init 40 = .ok (.new 18, 3) := by decide +kernel
theorem dX11_init_43 : decode cX11_init 43 = .ok (.dup, 1) := by decide +kernel
theorem dX11_init_44 : decode cX11_init 44 = .ok (.invokespecial 20, 3) := by decide +kernel
theorem dX11_init_47 : decode cX11_init 47 = .ok (.aastore, 1) := by decide +kernel
theorem dX11_init_48 : decode cX11_init 48 = .ok (.dup, 1) := by decide +kernel
theorem dX11_init_49 : decode cX11_init 49 = .ok (.iconst 4, 1) := by decide +kernel
theorem dX11_init_50 : decode cX11_init 50 = .ok (.new 21, 3) := by decide +kernel
theorem dX11_init_53 : decode cX11_init 53 = .ok (.dup, 1) := by decide +kernel
theorem dX11_init_54 : decode cX11_init 54 = .ok (.invokespecial 23, 3) := by decide +kernel
theorem dX11_init_57 : decode cX11_init 57 = .ok (.aastore, 1) := by decide +kernel
theorem dX11_init_58 : decode cX11_init 58 = .ok (.astore_n 1, 1) := by decide +kernel
theorem dX11_init_59 : decode cX11_init 59 = .ok (.aload_n 0, 1) := by decide +kernel
theorem dX11_init_60 : decode cX11_init 60 = .ok (.new 24, 3) := by decide +kernel
theorem dX11_init_63 : decode cX11_init 63 = .ok (.dup, 1) := by decide +kernel
theorem dX11_init_64 : decode cX11_init 64 = .ok (.invokespecial 26, 3) := by decide +kernel
theorem dX11_init_67 : decode cX11_init 67 = .ok (.putfield 27, 3) := by decide +kernel
theorem dX11_init_70 : decode cX11_init 70 = .ok (.aload_n 0, 1) := by decide +kernel
theorem dX11_init_71 : decode cX11_init 71 = .ok (.new 33, 3) := by decide +kernel
theorem dX11_init_74 : decode cX11_init 74 = .ok (.dup, 1) := by decide +kernel
theorem dX11_init_75 : decode cX11_init 75 = .ok (.invokespecial 35, 3) := by decide +kernel
theorem dX11_init_78 : decode cX11_init 78 = .ok (.putfield 36, 3) := by decide +kernel
theorem dX11_init_81 : decode cX11_init 81 = .ok (.aload_n 0, 1) := by decide +kernel
theorem dX11_init_82 : decode cX11_init 82 = .ok (.new 40, 3) := by decide +kernel
theorem dX11_init_85 : decode cX11_init 85 = .ok (.dup, 1) := by decide +kernel
theorem dX11_init_86 : decode cX11_init 86 = .ok (.aload_n 1, 1) := by decide +kernel
theorem dX11_init_87 : decode cX11_init 87 = .ok (.invokespecial 42, 3) := by decide +kernel
theorem dX11_init_90 : decode cX11_init 90 = .ok (.putfield 45, 3) := by decide +kernel
theorem dX11_init_93 : decode cX11_init 93 = .ok (.aload_n 0, 1) := by decide +kernel
theorem dX11_init_94 : decode cX11_init 94 = .ok (.new 40, 3) := by decide +kernel
theorem dX11_init_97 : decode cX11_init 97 = .ok (.dup, 1) := by decide +kernel
theorem dX11_init_98 : decode cX11_init 98 = .ok (.aload_n 1, 1) := by decide +kernel
theorem dX11_init_99 : decode cX11_init 99 = .ok (.invokespecial 42, 3) := by decide +kernel
theorem dX11_init_102 : decode cX11_init 102 = .ok (.putfield 49, 3) := by decide +kernel
theorem dX11_init_105 : decode cX11_init 105 = .ok (.aload_n 0, 1) := by decide +kernel
theorem dX11_init_106 : decode cX11_init 106 = .ok (.iconst 2, 1) := by decide +kernel
theorem dX11_init_107 : decode cX11_init 107 = .ok (.anewarray 40, 3) := by decide +kernel
theorem dX11_init_110 : decode cX11_init 110 = .ok (.dup, 1) := by decide +kernel
theorem dX11_init_111 : decode cX11_init 111 = .ok (.iconst 0, 1) := by decide +kernel
theorem dX11_init_112 : decode cX11_init 112 = .ok (.new 40, 3) := by decide +kernel
theorem dX11_init_115 : decode cX11_init 115 = .ok (.dup, 1) := by decide +kernel
theorem dX11_init_116 : decode cX11_init 116 = .ok (.aload_n 1, 1) := by decide +kernel
theorem dX11_init_117 : decode cX11_init 117 = .ok (.invokespecial 42, 3) := by decide +kernel
theorem dX11_init_120 : decode cX11_init 120 = .ok (.aastore, 1) := by decide +kernel
theorem dX11_init_121 : decode cX11_init 121 = .ok (.dup, 1) := by decide +kernel
theorem dX11_init_122 : decode cX11_init 122 = .ok (.iconst 1, 1) := by decide +kernel
theorem dX11_init_123 : decode cX11_init 123 = .ok (.new 40, 3) := by decide +kernel
theorem dX11_init_126 : decode cX11_init 126 = .ok (.dup, 1) := by decide +kernel
theorem dX11_init_127 : decode cX11_init 127 = .ok (.aload_n 1, 1) := by decide +kernel
theorem dX11_init_128 : decode cX11_init 128 = .ok (.invokespecial 42, 3) := by decide +kernel
theorem dX11_init_131 : decode cX11_init 131 = .ok (.aastore, 1) := by decide +kernel
theorem dX11_init_132 : decode cX11_init 132 = .ok (.putfield 52, 3) := by decide +kernel
theorem dX11_init_135 : decode cX11_init 135 = .ok (.aload_n 0, 1) := by decide +kernel
theorem dX11_init_136 : decode cX11_init 136 = .ok (.new 56, 3) := by decide +kernel
theorem dX11_init_139 : decode cX11_init 139 = .ok (.dup, 1) := by decide +kernel
theorem dX11_init_140 : decode cX11_init 140 = .ok (.invokespecial 58, 3) := by decide +kernel
theorem dX11_init_143 : decode cX11_init 143 = .ok (.putfield 59, 3) := by decide +kernel
theorem dX11_init_146 : decode cX11_init 146 = .ok (.aload_n 0, 1) := by decide +kernel
theorem dX11_init_147 : decode cX11_init 147 = .ok (.new 63, 3) := by decide +kernel
theorem dX11_init_150 : decode cX11_init 150 = .ok (.dup, 1) := by decide +kernel
theorem dX11_init_151 : decode cX11_init 151 = .ok (.invokespecial 65, 3) := by decide +kernel
theorem dX11_init_154 : decode cX11_init 154 = .ok (.putfield 66, 3) := by decide +kernel
theorem dX11_init_157 : decode cX11_init 157 = .ok (.return_, 1) := by decide +kernel
theorem dX11_row_0 : decode cX11_row 0 = .ok (.iload_n 1, 1) := by decide +kernel
theorem dX11_row_1 : decode cX11_row 1 = .ok (.invokestatic 70, 3) := by decide +kernel
theorem dX11_row_4 : decode cX11_row 4 = .ok (.ifCond .eq 18, 3) := by decide +kernel
theorem dX11_row_7 : decode cX11_row 7 = .ok (.iload_n 2, 1) := by decide +kernel
theorem dX11_row_8 : decode cX11_row 8 = .ok (.iconst 0, 1) := by decide +kernel
theorem dX11_row_9 : decode cX11_row 9 = .ok (.iconst 2, 1) := by decide +kernel
theorem dX11_row_10 : decode cX11_row 10 = .ok (.invokestatic 74, 3) := by decide +kernel
theorem dX11_row_13 : decode cX11_row 13 = .ok (.ifCond .eq 9, 3) := by decide +kernel
theorem dX11_row_16 : decode cX11_row 16 = .ok (.iload_n 3, 1) := by decide +kernel
theorem dX11_row_17 : decode cX11_row 17 = .ok (.bipush 40, 2) := by decide +kernel
theorem dX11_row_19 : decode cX11_row 19 = .ok (.if_icmp .le 6, 3) := by decide +kernel
theorem dX11_row_22 : decode cX11_row 22 = .ok (.ldc 78, 2) := by decide +kernel
theorem dX11_row_24 : decode cX11_row 24 = .ok (.ireturn, 1) := by decide +kernel
theorem dX11_row_25 : decode cX11_row 25 = .ok (.iload_n 3, 1) := by decide +kernel
theorem dX11_row_26 : decode cX11_row 26 = .ok (.ifCond .ge 9, 3) := by decide +kernel
theorem dX11_row_29 : decode cX11_row 29 = .ok (.aload_n 0, 1) := by decide +kernel
theorem dX11_row_30 : decode cX11_row 30 = .ok (.iconst 4, 1) := by decide +kernel
theorem dX11_row_31 : decode cX11_row 31 = .ok (.invokevirtual 79, 3) := by decide +kernel
theorem dX11_row_34 : decode cX11_row 34 = .ok (.ireturn, 1) := by decide +kernel
theorem dX11_row_35 : decode cX11_row 35 = .ok (.aload_n 0, 1) := by decide +kernel
theorem dX11_row_36 : decode cX11_row 36 = .ok (.getfield 27, 3) := by decide +kernel
theorem dX11_row_39 : decode cX11_row 39 = .ok (.iload_n 1, 1) := by decide +kernel
theorem dX11_row_40 : decode cX11_row 40 = .ok (.iload_n 2, 1) := by decide +kernel
theorem dX11_row_41 : decode cX11_row 41 = .ok (.iload_n 3, 1) := by decide +kernel
theorem dX11_row_42 : decode cX11_row 42 = .ok (.invokevirtual 83, 3) := by decide +kernel
theorem dX11_row_45 : decode cX11_row 45 = .ok (.aload_n 0, 1) := by decide +kernel
theorem dX11_row_46 : decode cX11_row 46 = .ok (.iload_n 3, 1) := by decide +kernel
theorem dX11_row_47 : decode cX11_row 47 = .ok (.invokevirtual 87, 3) := by decide +kernel
theorem dX11_row_50 : decode cX11_row 50 = .ok (.ireturn, 1) := by decide +kernel
theorem dX11_set_0 : decode cX11_set 0 = .ok (.iload_n 1, 1) := by decide +kernel
theorem dX11_set_1 : decode cX11_set 1 = .ok (.invokestatic 70, 3) := by decide +kernel
theorem dX11_set_4 : decode cX11_set 4 = .ok (.ifCond .ne 6, 3) := by decide +kernel
theorem dX11_set_7 : decode cX11_set 7 = .ok (.ldc 78, 2) := by decide +kernel
theorem dX11_set_9 : decode cX11_set 9 = .ok (.ireturn, 1) := by decide +kernel
theorem dX11_set_10 : decode cX11_set 10 = .ok (.aload_n 0, 1) := by decide +kernel
theorem dX11_set_11 : decode cX11_set 11 = .ok (.getfield 27, 3) := by decide +kernel
theorem dX11_set_14 : decode cX11_set 14 = .ok (.iload_n 1, 1) := by decide +kernel
theorem dX11_set_15 : decode cX11_set 15 = .ok (.iload_n 2, 1) := by decide +kernel
theorem dX11_set_16 : decode cX11_set 16 = .ok (.iconst 1, 1) := by decide +kernel
theorem dX11_set_17 : decode cX11_set 17 = .ok (.invokevirtual 90, 3) := by decide +kernel
theorem dX11_set_20 : decode cX11_set 20 = .ok (.istore 4, 2) := by decide +kernel
theorem dX11_set_22 : decode cX11_set 22 = .ok (.iload 4, 2) := by decide +kernel
theorem dX11_set_24 : decode cX11_set 24 = .ok (.ifCond .eq 10, 3) := by decide +kernel
theorem dX11_set_27 : decode cX11_set 27 = .ok (.aload_n 0, 1) := by decide +kernel
theorem dX11_set_28 : decode cX11_set 28 = .ok (.iload 4, 2) := by decide +kernel
theorem dX11_set_30 : decode cX11_set 30 = .ok (.invokevirtual 79, 3) := by decide +kernel
theorem dX11_set_33 : decode cX11_set 33 = .ok (.ireturn, 1) := by decide +kernel
theorem dX11_set_34 : decode cX11_set 34 = .ok (.aload_n 0, 1) := by decide +kernel
theorem dX11_set_35 : decode cX11_set 35 = .ok (.aload_n 0, 1) := by decide +kernel
theorem dX11_set_36 : decode cX11_set 36 = .ok (.getfield 27, 3) := by decide +kernel
theorem dX11_set_39 : decode cX11_set 39 = .ok (.iload_n 1, 1) := by decide +kernel
theorem dX11_set_40 : decode cX11_set 40 = .ok (.iload_n 2, 1) := by decide +kernel
theorem dX11_set_41 : decode cX11_set 41 = .ok (.iload_n 3, 1) := by decide +kernel
theorem dX11_set_42 : decode cX11_set 42 = .ok (.invokevirtual 94, 3) := by decide +kernel
theorem dX11_set_45 : decode cX11_set 45 = .ok (.invokevirtual 87, 3) := by decide +kernel
theorem dX11_set_48 : decode cX11_set 48 = .ok (.ireturn, 1) := by decide +kernel
theorem dX11_copy_0 : decode cX11_copy 0 = .ok (.iload_n 1, 1) := by decide +kernel
theorem dX11_copy_1 : decode cX11_copy 1 = .ok (.invokestatic 70, 3) := by decide +kernel
theorem dX11_copy_4 : decode cX11_copy 4 = .ok (.ifCond .eq 10, 3) := by decide +kernel
theorem dX11_copy_7 : decode cX11_copy 7 = .ok (.iload_n 3, 1) := by decide +kernel
theorem dX11_copy_8 : decode cX11_copy 8 = .ok (.invokestatic 70, 3) := by decide +kernel
theorem dX11_copy_11 : decode cX11_copy 11 = .ok (.ifCond .ne 6, 3) := by decide +kernel
theorem dX11_copy_14 : decode cX11_copy 14 = .ok (.ldc 78, 2) := by decide +kernel
theorem dX11_copy_16 : decode cX11_copy 16 = .ok (.ireturn, 1) := by decide +kernel
theorem dX11_copy_17 : decode cX11_copy 17 = .ok (.aload_n 0, 1) := by decide +kernel
theorem dX11_copy_18 : decode cX11_copy 18 = .ok (.getfield 27, 3) := by decide +kernel
theorem dX11_copy_21 : decode cX11_copy 21 = .ok (.iload_n 1, 1) := by decide +kernel
theorem dX11_copy_22 : decode cX11_copy 22 = .ok (.iload_n 2, 1) := by decide +kernel
theorem dX11_copy_23 : decode cX11_copy 23 = .ok (.iload_n 3, 1) := by decide +kernel
theorem dX11_copy_24 : decode cX11_copy 24 = .ok (.iload 4, 2) := by decide +kernel
theorem dX11_copy_26 : decode cX11_copy 26 = .ok (.iload 5, 2) := by decide +kernel
theorem dX11_copy_28 : decode cX11_copy 28 = .ok (.invokevirtual 97, 3) := by decide +kernel
theorem dX11_copy_31 : decode cX11_copy 31 = .ok (.istore 6, 2) := by decide +kernel
theorem dX11_copy_33 : decode cX11_copy 33 = .ok (.iload 6, 2) := by decide +kernel
theorem dX11_copy_35 : decode cX11_copy 35 = .ok (.ifCond .eq 10, 3) := by decide +kernel
theorem dX11_copy_38 : decode cX11_copy 38 = .ok (.aload_n 0, 1) := by decide +kernel
theorem dX11_copy_39 : decode cX11_copy 39 = .ok (.iload 6, 2) := by decide +kernel
theorem dX11_copy_41 : decode cX11_copy 41 = .ok (.invokevirtual 79, 3) := by decide +kernel
theorem dX11_copy_44 : decode cX11_copy 44 = .ok (.ireturn, 1) := by decide +kernel
theorem dX11_copy_45 : decode cX11_copy 45 = .ok (.aload_n 0, 1) := by decide +kernel
theorem dX11_copy_46 : decode cX11_copy 46 = .ok (.getfield 27, 3) := by decide +kernel
theorem dX11_copy_49 : decode cX11_copy 49 = .ok (.iload_n 1, 1) := by decide +kernel
theorem dX11_copy_50 : decode cX11_copy 50 = .ok (.iload_n 2, 1) := by decide +kernel
theorem dX11_copy_51 : decode cX11_copy 51 = .ok (.iload_n 3, 1) := by decide +kernel
theorem dX11_copy_52 : decode cX11_copy 52 = .ok (.iload 4, 2) := by decide +kernel
theorem dX11_copy_54 : decode cX11_copy 54 = .ok (.iload 5, 2) := by decide +kernel
theorem dX11_copy_56 : decode cX11_copy 56 = .ok (.invokevirtual 101, 3) := by decide +kernel
theorem dX11_copy_59 : decode cX11_copy 59 = .ok (.aload_n 0, 1) := by decide +kernel
theorem dX11_copy_60 : decode cX11_copy 60 = .ok (.iload 5, 2) := by decide +kernel
theorem dX11_copy_62 : decode cX11_copy 62 = .ok (.invokevirtual 87, 3) := by decide +kernel
theorem dX11_copy_65 : decode cX11_copy 65 = .ok (.ireturn, 1) := by decide +kernel
theorem dX11_drop_0 : decode cX11_drop 0 = .ok (.iload_n 1, 1) := by decide +kernel
theorem dX11_drop_1 : decode cX11_drop 1 = .ok (.invokestatic 70, 3) := by decide +kernel
theorem dX11_drop_4 : decode cX11_drop 4 = .ok (.ifCond .ne 6, 3) := by decide +kernel
theorem dX11_drop_7 : decode cX11_drop 7 = .ok (.ldc 78, 2) := by decide +kernel
theorem dX11_drop_9 : decode cX11_drop 9 = .ok (.ireturn, 1) := by decide +kernel
theorem dX11_drop_10 : decode cX11_drop 10 = .ok (.aload_n 0, 1) := by decide +kernel
theorem dX11_drop_11 : decode cX11_drop 11 = .ok (.getfield 27, 3) := by decide +kernel
theorem dX11_drop_14 : decode cX11_drop 14 = .ok (.iload_n 1, 1) := by decide +kernel
theorem dX11_drop_15 : decode cX11_drop 15 = .ok (.invokevirtual 105, 3) := by decide +kernel
theorem dX11_drop_18 : decode cX11_drop 18 = .ok (.ifCond .eq 9, 3) := by decide +kernel
theorem dX11_drop_21 : decode cX11_drop 21 = .ok (.aload_n 0, 1) := by decide +kernel
theorem dX11_drop_22 : decode cX11_drop 22 = .ok (.iconst 1, 1) := by decide +kernel
theorem dX11_drop_23 : decode cX11_drop 23 = .ok (.invokevirtual 79, 3) := by decide +kernel
theorem dX11_drop_26 : decode cX11_drop 26 = .ok (.ireturn, 1) := by decide +kernel
theorem dX11_drop_27 : decode cX11_drop 27 = .ok (.aload_n 0, 1) := by decide +kernel
theorem dX11_drop_28 : decode cX11_drop 28 = .ok (.aload_n 0, 1) := by decide +kernel
theorem dX11_drop_29 : decode cX11_drop 29 = .ok (.getfield 27, 3) := by decide +kernel
theorem dX11_drop_32 : decode cX11_drop 32 = .ok (.iload_n 1, 1) := by decide +kernel
theorem dX11_drop_33 : decode cX11_drop 33 = .ok (.invokevirtual 108, 3) := by decide +kernel
theorem dX11_drop_36 : decode cX11_drop 36 = .ok (.invokevirtual 87, 3) := by decide +kernel
theorem dX11_drop_39 : decode cX11_drop 39 = .ok (.ireturn, 1) := by decide +kernel
theorem dX11_feed_0 : decode cX11_feed 0 = .ok (.iload_n 1, 1) := by decide +kernel
theorem dX11_feed_1 : decode cX11_feed 1 = .ok (.iconst 0, 1) := by decide +kernel
theorem dX11_feed_2 : decode cX11_feed 2 = .ok (.sipush 255, 3) := by decide +kernel
theorem dX11_feed_5 : decode cX11_feed 5 = .ok (.invokestatic 74, 3) := by decide +kernel
theorem dX11_feed_8 : decode cX11_feed 8 = .ok (.ifCond .ne 6, 3) := by decide +kernel
theorem dX11_feed_11 : decode cX11_feed 11 = .ok (.ldc 78, 2) := by decide +kernel
theorem dX11_feed_13 : decode cX11_feed 13 = .ok (.ireturn, 1) := by decide +kernel
theorem dX11_feed_14 : decode cX11_feed 14 = .ok (.aload_n 0, 1) := by decide +kernel
theorem dX11_feed_15 : decode cX11_feed 15 = .ok (.getfield 36, 3) := by decide +kernel
theorem dX11_feed_18 : decode cX11_feed 18 = .ok (.getfield 111, 3) := by decide +kernel
theorem dX11_feed_21 : decode cX11_feed 21 = .ok (.bipush 100, 2) := by decide +kernel
theorem dX11_feed_23 : decode cX11_feed 23 = .ok (.if_icmp .lt 6, 3) := by decide +kernel
theorem dX11_feed_26 : decode cX11_feed 26 = .ok (.ldc 115, 2) := by decide +kernel
theorem dX11_feed_28 : decode cX11_feed 28 = .ok (.ireturn, 1) := by decide +kernel
theorem dX11_feed_29 : decode cX11_feed 29 = .ok (.aload_n 0, 1) := by decide +kernel
theorem dX11_feed_30 : decode cX11_feed 30 = .ok (.getfield 36, 3) := by decide +kernel
theorem dX11_feed_33 : decode cX11_feed 33 = .ok (.iload_n 1, 1) := by decide +kernel
theorem dX11_feed_34 : decode cX11_feed 34 = .ok (.invokevirtual 116, 3) := by decide +kernel
theorem dX11_feed_37 : decode cX11_feed 37 = .ok (.aload_n 0, 1) := by decide +kernel
theorem dX11_feed_38 : decode cX11_feed 38 = .ok (.getfield 36, 3) := by decide +kernel
theorem dX11_feed_41 : decode cX11_feed 41 = .ok (.getfield 111, 3) := by decide +kernel
theorem dX11_feed_44 : decode cX11_feed 44 = .ok (.ireturn, 1) := by decide +kernel
theorem dX11_line_0 : decode cX11_line 0 = .ok (.aload_n 0, 1) := by decide +kernel
theorem dX11_line_1 : decode cX11_line 1 = .ok (.getfield 36, 3) := by decide +kernel
theorem dX11_line_4 : decode cX11_line 4 = .ok (.aload_n 0, 1) := by decide +kernel
theorem dX11_line_5 : decode cX11_line 5 = .ok (.getfield 49, 3) := by decide +kernel
theorem dX11_line_8 : decode cX11_line 8 = .ok (.invokevirtual 119, 3) := by decide +kernel
theorem dX11_line_11 : decode cX11_line 11 = .ok (.istore_n 1, 1) := by decide +kernel
theorem dX11_line_12 : decode cX11_line 12 = .ok (.aload_n 0, 1) := by decide +kernel
theorem dX11_line_13 : decode cX11_line 13 = .ok (.getfield 36, 3) := by decide +kernel
theorem dX11_line_16 : decode cX11_line 16 = .ok (.iconst 0, 1) := by decide +kernel
theorem dX11_line_17 : decode cX11_line 17 = .ok (.putfield 111, 3) := by decide +kernel
theorem dX11_line_20 : decode cX11_line 20 = .ok (.iload_n 1, 1) := by decide +kernel
theorem dX11_line_21 : decode cX11_line 21 = .ok (.ifCond .ne 25, 3) := by decide +kernel
theorem dX11_line_24 : decode cX11_line 24 = .ok (.aload_n 0, 1) := by decide +kernel
theorem dX11_line_25 : decode cX11_line 25 = .ok (.aload_n 0, 1) := by decide +kernel
theorem dX11_line_26 : decode cX11_line 26 = .ok (.getfield 36, 3) := by decide +kernel
theorem dX11_line_29 : decode cX11_line 29 = .ok (.getfield 123, 3) := by decide +kernel
theorem dX11_line_32 : decode cX11_line 32 = .ok (.putfield 126, 3) := by decide +kernel
theorem dX11_line_35 : decode cX11_line 35 = .ok (.ldc 129, 2) := by decide +kernel
theorem dX11_line_37 : decode cX11_line 37 = .ok (.aload_n 0, 1) := by decide +kernel
theorem dX11_line_38 : decode cX11_line 38 = .ok (.getfield 36, 3) := by decide +kernel
theorem dX11_line_41 : decode cX11_line 41 = .ok (.getfield 130, 3) := by decide +kernel
theorem dX11_line_44 : decode cX11_line 44 = .ok (.isub, 1) := by decide +kernel
theorem dX11_line_45 : decode cX11_line 45 = .ok (.ireturn, 1) := by decide +kernel
theorem dX11_line_46 : decode cX11_line 46 = .ok (.aload_n 0, 1) := by decide +kernel
theorem dX11_line_47 : decode cX11_line 47 = .ok (.getfield 45, 3) := by decide +kernel
theorem dX11_line_50 : decode cX11_line 50 = .ok (.aload_n 0, 1) := by decide +kernel
theorem dX11_line_51 : decode cX11_line 51 = .ok (.getfield 49, 3) := by decide +kernel
theorem dX11_line_54 : decode cX11_line 54 = .ok (.invokevirtual 133, 3) := by decide +kernel
theorem dX11_line_57 : decode cX11_line 57 = .ok (.aload_n 0, 1) := by decide +kernel
theorem dX11_line_58 : decode cX11_line 58 = .ok (.getfield 59, 3) := by decide +kernel
theorem dX11_line_61 : decode cX11_line 61 = .ok (.invokevirtual 137, 3) := by decide +kernel
theorem dX11_line_64 : decode cX11_line 64 = .ok (.aload_n 0, 1) := by decide +kernel
theorem dX11_line_65 : decode cX11_line 65 = .ok (.getfield 45, 3) := by decide +kernel
theorem dX11_line_68 : decode cX11_line 68 = .ok (.getfield 140, 3) := by decide +kernel
theorem dX11_line_71 : decode cX11_line 71 = .ok (.ireturn, 1) := by decide +kernel
theorem dX11_fault_0 : decode cX11_fault 0 = .ok (.aload_n 0, 1) := by decide +kernel
theorem dX11_fault_1 : decode cX11_fault 1 = .ok (.getfield 126, 3) := by decide +kernel
theorem dX11_fault_4 : decode cX11_fault 4 = .ok (.ireturn, 1) := by decide +kernel
theorem dX11_minutes_0 : decode cX11_minutes 0 = .ok (.aload_n 0, 1) := by decide +kernel
theorem dX11_minutes_1 : decode cX11_minutes 1 = .ok (.invokevirtual 143, 3) := by decide +kernel
theorem dX11_minutes_4 : decode cX11_minutes 4 = .ok (.ifCond .ne 6, 3) := by decide +kernel
theorem dX11_minutes_7 : decode cX11_minutes 7 = .ok (.ldc 147, 2) := by decide +kernel
theorem dX11_minutes_9 : decode cX11_minutes 9 = .ok (.ireturn, 1) := by decide +kernel
theorem dX11_minutes_10 : decode cX11_minutes 10 = .ok (.iload_n 1, 1) := by decide +kernel
theorem dX11_minutes_11 : decode cX11_minutes 11 = .ok (.iconst 1, 1) := by decide +kernel
theorem dX11_minutes_12 : decode cX11_minutes 12 = .ok (.bipush 24, 2) := by decide +kernel
theorem dX11_minutes_14 : decode cX11_minutes 14 = .ok (.invokestatic 74, 3) := by decide +kernel
theorem dX11_minutes_17 : decode cX11_minutes 17 = .ok (.ifCond .ne 6, 3) := by decide +kernel
theorem dX11_minutes_20 : decode cX11_minutes 20 = .ok (.ldc 78, 2) := by decide +kernel
theorem dX11_minutes_22 : decode cX11_minutes 22 = .ok (.ireturn, 1) := by decide +kernel
theorem dX11_minutes_23 : decode cX11_minutes 23 = .ok (.aload_n 0, 1) := by decide +kernel
theorem dX11_minutes_24 : decode cX11_minutes 24 = .ok (.getfield 45, 3) := by decide +kernel
theorem dX11_minutes_27 : decode cX11_minutes 27 = .ok (.getfield 148, 3) := by decide +kernel
theorem dX11_minutes_30 : decode cX11_minutes 30 = .ok (.iload_n 1, 1) := by decide +kernel
theorem dX11_minutes_31 : decode cX11_minutes 31 = .ok (.iadd, 1) := by decide +kernel
theorem dX11_minutes_32 : decode cX11_minutes 32 = .ok (.sipush 999, 3) := by decide +kernel
theorem dX11_minutes_35 : decode cX11_minutes 35 = .ok (.if_icmp .le 6, 3) := by decide +kernel
theorem dX11_minutes_38 : decode cX11_minutes 38 = .ok (.ldc 115, 2) := by decide +kernel
theorem dX11_minutes_40 : decode cX11_minutes 40 = .ok (.ireturn, 1) := by decide +kernel
theorem dX11_minutes_41 : decode cX11_minutes 41 = .ok (.iconst 0, 1) := by decide +kernel
theorem dX11_minutes_42 : decode cX11_minutes 42 = .ok (.istore_n 2, 1) := by decide +kernel
theorem dX11_minutes_43 : decode cX11_minutes 43 = .ok (.iload_n 2, 1) := by decide +kernel
theorem dX11_minutes_44 : decode cX11_minutes 44 = .ok (.iload_n 1, 1) := by decide +kernel
theorem dX11_minutes_45 : decode cX11_minutes 45 = .ok (.if_icmp .ge 29, 3) := by decide +kernel
theorem dX11_minutes_48 : decode cX11_minutes 48 = .ok (.aload_n 0, 1) := by decide +kernel
theorem dX11_minutes_49 : decode cX11_minutes 49 = .ok (.getfield 59, 3) := by decide +kernel
theorem dX11_minutes_52 : decode cX11_minutes 52 = .ok (.aload_n 0, 1) := by decide +kernel
theorem dX11_minutes_53 : decode cX11_minutes 53 = .ok (.getfield 45, 3) := by decide +kernel
theorem dX11_minutes_56 : decode cX11_minutes 56 = .ok (.invokevirtual 151, 3) := by decide +kernel
theorem dX11_minutes_59 : decode cX11_minutes 59 = .ok (.aload_n 0, 1) := by decide +kernel
theorem dX11_minutes_60 : decode cX11_minutes 60 = .ok (.getfield 45, 3) := by decide +kernel
theorem dX11_minutes_63 : decode cX11_minutes 63 = .ok (.iconst 0, 1) := by decide +kernel
theorem dX11_minutes_64 : decode cX11_minutes 64 = .ok (.invokevirtual 154, 3) := by decide +kernel
theorem dX11_minutes_67 : decode cX11_minutes 67 = .ok (.pop, 1) := by decide +kernel
theorem dX11_minutes_68 : decode cX11_minutes 68 = .ok (.iinc 2 1, 3) := by decide +kernel
theorem dX11_minutes_71 : decode cX11_minutes 71 = .ok (.goto (-28), 3) := by decide +kernel
theorem dX11_minutes_74 : decode cX11_minutes 74 = .ok (.aload_n 0, 1) := by decide +kernel
theorem dX11_minutes_75 : decode cX11_minutes 75 = .ok (.getfield 45, 3) := by decide +kernel
theorem dX11_minutes_78 : decode cX11_minutes 78 = .ok (.invokevirtual 157, 3) := by decide +kernel
theorem dX11_minutes_81 : decode cX11_minutes 81 = .ok (.ireturn, 1) := by decide +kernel
theorem dX11_walk_0 : decode cX11_walk 0 = .ok (.aload_n 0, 1) := by decide +kernel
theorem dX11_walk_1 : decode cX11_walk 1 = .ok (.iload_n 1, 1) := by decide +kernel
theorem dX11_walk_2 : decode cX11_walk 2 = .ok (.invokevirtual 161, 3) := by decide +kernel
theorem dX11_walk_5 : decode cX11_walk 5 = .ok (.ifCond .eq 12, 3) := by decide +kernel
theorem dX11_walk_8 : decode cX11_walk 8 = .ok (.iload_n 2, 1) := by decide +kernel
theorem dX11_walk_9 : decode cX11_walk 9 = .ok (.iconst 0, 1) := by decide +kernel
theorem dX11_walk_10 : decode cX11_walk 10 = .ok (.iconst 1, 1) := by decide +kernel
theorem dX11_walk_11 : decode cX11_walk 11 = .ok (.invokestatic 74, 3) := by decide +kernel
theorem dX11_walk_14 : decode cX11_walk 14 = .ok (.ifCond .ne 6, 3) := by decide +kernel
theorem dX11_walk_17 : decode cX11_walk 17 = .ok (.ldc 78, 2) := by decide +kernel
theorem dX11_walk_19 : decode cX11_walk 19 = .ok (.ireturn, 1) := by decide +kernel
theorem dX11_walk_20 : decode cX11_walk 20 = .ok (.aload_n 0, 1) := by decide +kernel
theorem dX11_walk_21 : decode cX11_walk 21 = .ok (.getfield 45, 3) := by decide +kernel
theorem dX11_walk_24 : decode cX11_walk 24 = .ok (.getfield 164, 3) := by decide +kernel
theorem dX11_walk_27 : decode cX11_walk 27 = .ok (.iload_n 1, 1) := by decide +kernel
theorem dX11_walk_28 : decode cX11_walk 28 = .ok (.iaload, 1) := by decide +kernel
theorem dX11_walk_29 : decode cX11_walk 29 = .ok (.iload_n 2, 1) := by decide +kernel
theorem dX11_walk_30 : decode cX11_walk 30 = .ok (.iconst 1, 1) := by decide +kernel
theorem dX11_walk_31 : decode cX11_walk 31 = .ok (.if_icmp .ne 7, 3) := by decide +kernel
theorem dX11_walk_34 : decode cX11_walk 34 = .ok (.iconst 1, 1) := by decide +kernel
theorem dX11_walk_35 : decode cX11_walk 35 = .ok (.goto 4, 3) := by decide +kernel
theorem dX11_walk_38 : decode cX11_walk 38 = .ok (.iconst (-1), 1) := by decide +kernel
theorem dX11_walk_39 : decode cX11_walk 39 = .ok (.iadd, 1) := by decide +kernel
theorem dX11_walk_40 : decode cX11_walk 40 = .ok (.istore_n 3, 1) := by decide +kernel
theorem dX11_walk_41 : decode cX11_walk 41 = .ok (.aload_n 0, 1) := by decide +kernel
theorem dX11_walk_42 : decode cX11_walk 42 = .ok (.iload_n 3, 1) := by decide +kernel
theorem dX11_walk_43 : decode cX11_walk 43 = .ok (.invokevirtual 168, 3) := by decide +kernel
theorem dX11_walk_46 : decode cX11_walk 46 = .ok (.ifCond .ne 6, 3) := by decide +kernel
theorem dX11_walk_49 : decode cX11_walk 49 = .ok (.ldc 147, 2) := by decide +kernel
theorem dX11_walk_51 : decode cX11_walk 51 = .ok (.ireturn, 1) := by decide +kernel
theorem dX11_walk_52 : decode cX11_walk 52 = .ok (.aload_n 0, 1) := by decide +kernel
theorem dX11_walk_53 : decode cX11_walk 53 = .ok (.getfield 59, 3) := by decide +kernel
theorem dX11_walk_56 : decode cX11_walk 56 = .ok (.aload_n 0, 1) := by decide +kernel
theorem dX11_walk_57 : decode cX11_walk 57 = .ok (.getfield 45, 3) := by decide +kernel
theorem dX11_walk_60 : decode cX11_walk 60 = .ok (.invokevirtual 151, 3) := by decide +kernel
theorem dX11_walk_63 : decode cX11_walk 63 = .ok (.aload_n 0, 1) := by decide +kernel
theorem dX11_walk_64 : decode cX11_walk 64 = .ok (.getfield 45, 3) := by decide +kernel
theorem dX11_walk_67 : decode cX11_walk 67 = .ok (.iload_n 1, 1) := by decide +kernel
theorem dX11_walk_68 : decode cX11_walk 68 = .ok (.iload_n 3, 1) := by decide +kernel
theorem dX11_walk_69 : decode cX11_walk 69 = .ok (.invokevirtual 171, 3) := by decide +kernel
theorem dX11_walk_72 : decode cX11_walk 72 = .ok (.iload_n 3, 1) := by decide +kernel
theorem dX11_walk_73 : decode cX11_walk 73 = .ok (.ireturn, 1) := by decide +kernel
theorem dX11_preach_0 : decode cX11_preach 0 = .ok (.aload_n 0, 1) := by decide +kernel
theorem dX11_preach_1 : decode cX11_preach 1 = .ok (.iload_n 1, 1) := by decide +kernel
theorem dX11_preach_2 : decode cX11_preach 2 = .ok (.invokevirtual 161, 3) := by decide +kernel
theorem dX11_preach_5 : decode cX11_preach 5 = .ok (.ifCond .eq 13, 3) := by decide +kernel
theorem dX11_preach_8 : decode cX11_preach 8 = .ok (.iload_n 2, 1) := by decide +kernel
theorem dX11_preach_9 : decode cX11_preach 9 = .ok (.iconst 0, 1) := by decide +kernel
theorem dX11_preach_10 : decode cX11_preach 10 = .ok (.bipush 20, 2) := by decide +kernel
theorem dX11_preach_12 : decode cX11_preach 12 = .ok (.invokestatic 74, 3) := by decide +kernel
theorem dX11_preach_15 : decode cX11_preach 15 = .ok (.ifCond .ne 6, 3) := by decide +kernel
theorem dX11_preach_18 : decode cX11_preach 18 = .ok (.ldc 78, 2) := by decide +kernel
theorem dX11_preach_20 : decode cX11_preach 20 = .ok (.ireturn, 1) := by decide +kernel
theorem dX11_preach_21 : decode cX11_preach 21 = .ok (.aload_n 0, 1) := by decide +kernel
theorem dX11_preach_22 : decode cX11_preach 22 = .ok (.getfield 59, 3) := by decide +kernel
theorem dX11_preach_25 : decode cX11_preach 25 = .ok (.aload_n 0, 1) := by decide +kernel
theorem dX11_preach_26 : decode cX11_preach 26 = .ok (.getfield 45, 3) := by decide +kernel
theorem dX11_preach_29 : decode cX11_preach 29 = .ok (.invokevirtual 151, 3) := by decide +kernel
theorem dX11_preach_32 : decode cX11_preach 32 = .ok (.aload_n 0, 1) := by decide +kernel
theorem dX11_preach_33 : decode cX11_preach 33 = .ok (.getfield 45, 3) := by decide +kernel
theorem dX11_preach_36 : decode cX11_preach 36 = .ok (.getfield 175, 3) := by decide +kernel
theorem dX11_preach_39 : decode cX11_preach 39 = .ok (.iload_n 1, 1) := by decide +kernel
theorem dX11_preach_40 : decode cX11_preach 40 = .ok (.iaload, 1) := by decide +kernel
theorem dX11_preach_41 : decode cX11_preach 41 = .ok (.istore_n 3, 1) := by decide +kernel
theorem dX11_preach_42 : decode cX11_preach 42 = .ok (.aload_n 0, 1) := by decide +kernel
theorem dX11_preach_43 : decode cX11_preach 43 = .ok (.getfield 45, 3) := by decide +kernel
theorem dX11_preach_46 : decode cX11_preach 46 = .ok (.getfield 175, 3) := by decide +kernel
theorem dX11_preach_49 : decode cX11_preach 49 = .ok (.iload_n 1, 1) := by decide +kernel
theorem dX11_preach_50 : decode cX11_preach 50 = .ok (.iload_n 2, 1) := by decide +kernel
theorem dX11_preach_51 : decode cX11_preach 51 = .ok (.iastore, 1) := by decide +kernel
theorem dX11_preach_52 : decode cX11_preach 52 = .ok (.iload_n 3, 1) := by decide +kernel
theorem dX11_preach_53 : decode cX11_preach 53 = .ok (.ireturn, 1) := by decide +kernel
theorem dX11_wish_0 : decode cX11_wish 0 = .ok (.aload_n 0, 1) := by decide +kernel
theorem dX11_wish_1 : decode cX11_wish 1 = .ok (.iload_n 1, 1) := by decide +kernel
theorem dX11_wish_2 : decode cX11_wish 2 = .ok (.invokevirtual 161, 3) := by decide +kernel
theorem dX11_wish_5 : decode cX11_wish 5 = .ok (.ifCond .eq 11, 3) := by decide +kernel
theorem dX11_wish_8 : decode cX11_wish 8 = .ok (.aload_n 0, 1) := by decide +kernel
theorem dX11_wish_9 : decode cX11_wish 9 = .ok (.iload_n 2, 1) := by decide +kernel
theorem dX11_wish_10 : decode cX11_wish 10 = .ok (.invokevirtual 168, 3) := by decide +kernel
theorem dX11_wish_13 : decode cX11_wish 13 = .ok (.ifCond .ne 6, 3) := by decide +kernel
theorem dX11_wish_16 : decode cX11_wish 16 = .ok (.ldc 78, 2) := by decide +kernel
theorem dX11_wish_18 : decode cX11_wish 18 = .ok (.ireturn, 1) := by decide +kernel
theorem dX11_wish_19 : decode cX11_wish 19 = .ok (.aload_n 0, 1) := by decide +kernel
theorem dX11_wish_20 : decode cX11_wish 20 = .ok (.getfield 59, 3) := by decide +kernel
theorem dX11_wish_23 : decode cX11_wish 23 = .ok (.aload_n 0, 1) := by decide +kernel
theorem dX11_wish_24 : decode cX11_wish 24 = .ok (.getfield 45, 3) := by decide +kernel
theorem dX11_wish_27 : decode cX11_wish 27 = .ok (.invokevirtual 151, 3) := by decide +kernel
theorem dX11_wish_30 : decode cX11_wish 30 = .ok (.aload_n 0, 1) := by decide +kernel
theorem dX11_wish_31 : decode cX11_wish 31 = .ok (.getfield 45, 3) := by decide +kernel
theorem dX11_wish_34 : decode cX11_wish 34 = .ok (.getfield 178, 3) := by decide +kernel
theorem dX11_wish_37 : decode cX11_wish 37 = .ok (.iload_n 1, 1) := by decide +kernel
theorem dX11_wish_38 : decode cX11_wish 38 = .ok (.iaload, 1) := by decide +kernel
theorem dX11_wish_39 : decode cX11_wish 39 = .ok (.istore_n 3, 1) := by decide +kernel
theorem dX11_wish_40 : decode cX11_wish 40 = .ok (.aload_n 0, 1) := by decide +kernel
theorem dX11_wish_41 : decode cX11_wish 41 = .ok (.getfield 45, 3) := by decide +kernel
theorem dX11_wish_44 : decode cX11_wish 44 = .ok (.getfield 178, 3) := by decide +kernel
theorem dX11_wish_47 : decode cX11_wish 47 = .ok (.iload_n 1, 1) := by decide +kernel
theorem dX11_wish_48 : decode cX11_wish 48 = .ok (.iload_n 2, 1) := by decide +kernel
theorem dX11_wish_49 : decode cX11_wish 49 = .ok (.iastore, 1) := by decide +kernel
theorem dX11_wish_50 : decode cX11_wish 50 = .ok (.iload_n 3, 1) := by decide +kernel
theorem dX11_wish_51 : decode cX11_wish 51 = .ok (.ireturn, 1) := by decide +kernel
theorem dX11_undo_0 : decode cX11_undo 0 = .ok (.aload_n 0, 1) := by decide +kernel
theorem dX11_undo_1 : decode cX11_undo 1 = .ok (.getfield 59, 3) := by decide +kernel
theorem dX11_undo_4 : decode cX11_undo 4 = .ok (.getfield 181, 3) := by decide +kernel
theorem dX11_undo_7 : decode cX11_undo 7 = .ok (.ifCond .ne 6, 3) := by decide +kernel
theorem dX11_undo_10 : decode cX11_undo 10 = .ok (.ldc 147, 2) := by decide +kernel
theorem dX11_undo_12 : decode cX11_undo 12 = .ok (.ireturn, 1) := by decide +kernel
theorem dX11_undo_13 : decode cX11_undo 13 = .ok (.aload_n 0, 1) := by decide +kernel
theorem dX11_undo_14 : decode cX11_undo 14 = .ok (.getfield 59, 3) := by decide +kernel
theorem dX11_undo_17 : decode cX11_undo 17 = .ok (.aload_n 0, 1) := by decide +kernel
theorem dX11_undo_18 : decode cX11_undo 18 = .ok (.getfield 45, 3) := by decide +kernel
theorem dX11_undo_21 : decode cX11_undo 21 = .ok (.invokevirtual 184, 3) := by decide +kernel
theorem dX11_undo_24 : decode cX11_undo 24 = .ok (.aload_n 0, 1) := by decide +kernel
theorem dX11_undo_25 : decode cX11_undo 25 = .ok (.getfield 59, 3) := by decide +kernel
theorem dX11_undo_28 : decode cX11_undo 28 = .ok (.getfield 181, 3) := by decide +kernel
theorem dX11_undo_31 : decode cX11_undo 31 = .ok (.ireturn, 1) := by decide +kernel
theorem dX11_person_0 : decode cX11_person 0 = .ok (.aload_n 0, 1) := by decide +kernel
theorem dX11_person_1 : decode cX11_person 1 = .ok (.iload_n 1, 1) := by decide +kernel
theorem dX11_person_2 : decode cX11_person 2 = .ok (.invokevirtual 161, 3) := by decide +kernel
theorem dX11_person_5 : decode cX11_person 5 = .ok (.ifCond .ne 6, 3) := by decide +kernel
theorem dX11_person_8 : decode cX11_person 8 = .ok (.ldc 78, 2) := by decide +kernel
theorem dX11_person_10 : decode cX11_person 10 = .ok (.ireturn, 1) := by decide +kernel
theorem dX11_person_11 : decode cX11_person 11 = .ok (.iload_n 2, 1) := by decide +kernel
theorem dX11_person_12 : decode cX11_person 12 = .ok (.tableswitch 85 0 4 #[36, 46, 56, 66, 76], 36) := by decide +kernel
theorem dX11_person_48 : decode cX11_person 48 = .ok (.aload_n 0, 1) := by decide +kernel
theorem dX11_person_49 : decode cX11_person 49 = .ok (.getfield 45, 3) := by decide +kernel
theorem dX11_person_52 : decode cX11_person 52 = .ok (.getfield 164, 3) := by decide +kernel
theorem dX11_person_55 : decode cX11_person 55 = .ok (.iload_n 1, 1) := by decide +kernel
theorem dX11_person_56 : decode cX11_person 56 = .ok (.iaload, 1) := by decide +kernel
theorem dX11_person_57 : decode cX11_person 57 = .ok (.ireturn, 1) := by decide +kernel
theorem dX11_person_58 : decode cX11_person 58 = .ok (.aload_n 0, 1) := by decide +kernel
theorem dX11_person_59 : decode cX11_person 59 = .ok (.getfield 45, 3) := by decide +kernel
theorem dX11_person_62 : decode cX11_person 62 = .ok (.getfield 175, 3) := by decide +kernel
theorem dX11_person_65 : decode cX11_person 65 = .ok (.iload_n 1, 1) := by decide +kernel
theorem dX11_person_66 : decode cX11_person 66 = .ok (.iaload, 1) := by decide +kernel
theorem dX11_person_67 : decode cX11_person 67 = .ok (.ireturn, 1) := by decide +kernel
theorem dX11_person_68 : decode cX11_person 68 = .ok (.aload_n 0, 1) := by decide +kernel
theorem dX11_person_69 : decode cX11_person 69 = .ok (.getfield 45, 3) := by decide +kernel
theorem dX11_person_72 : decode cX11_person 72 = .ok (.getfield 178, 3) := by decide +kernel
theorem dX11_person_75 : decode cX11_person 75 = .ok (.iload_n 1, 1) := by decide +kernel
theorem dX11_person_76 : decode cX11_person 76 = .ok (.iaload, 1) := by decide +kernel
theorem dX11_person_77 : decode cX11_person 77 = .ok (.ireturn, 1) := by decide +kernel
theorem dX11_person_78 : decode cX11_person 78 = .ok (.aload_n 0, 1) := by decide +kernel
theorem dX11_person_79 : decode cX11_person 79 = .ok (.getfield 45, 3) := by decide +kernel
theorem dX11_person_82 : decode cX11_person 82 = .ok (.getfield 187, 3) := by decide +kernel
theorem dX11_person_85 : decode cX11_person 85 = .ok (.iload_n 1, 1) := by decide +kernel
theorem dX11_person_86 : decode cX11_person 86 = .ok (.iaload, 1) := by decide +kernel
theorem dX11_person_87 : decode cX11_person 87 = .ok (.ireturn, 1) := by decide +kernel
theorem dX11_person_88 : decode cX11_person 88 = .ok (.aload_n 0, 1) := by decide +kernel
theorem dX11_person_89 : decode cX11_person 89 = .ok (.getfield 45, 3) := by decide +kernel
theorem dX11_person_92 : decode cX11_person 92 = .ok (.iload_n 1, 1) := by decide +kernel
theorem dX11_person_93 : decode cX11_person 93 = .ok (.invokevirtual 190, 3) := by decide +kernel
theorem dX11_person_96 : decode cX11_person 96 = .ok (.ireturn, 1) := by decide +kernel
theorem dX11_person_97 : decode cX11_person 97 = .ok (.ldc 78, 2) := by decide +kernel
theorem dX11_person_99 : decode cX11_person 99 = .ok (.ireturn, 1) := by decide +kernel
theorem dX11_stop_0 : decode cX11_stop 0 = .ok (.aload_n 0, 1) := by decide +kernel
theorem dX11_stop_1 : decode cX11_stop 1 = .ok (.iload_n 1, 1) := by decide +kernel
theorem dX11_stop_2 : decode cX11_stop 2 = .ok (.invokevirtual 168, 3) := by decide +kernel
theorem dX11_stop_5 : decode cX11_stop 5 = .ok (.ifCond .eq 12, 3) := by decide +kernel
theorem dX11_stop_8 : decode cX11_stop 8 = .ok (.iload_n 2, 1) := by decide +kernel
theorem dX11_stop_9 : decode cX11_stop 9 = .ok (.iconst 0, 1) := by decide +kernel
theorem dX11_stop_10 : decode cX11_stop 10 = .ok (.iconst 1, 1) := by decide +kernel
theorem dX11_stop_11 : decode cX11_stop 11 = .ok (.invokestatic 74, 3) := by decide +kernel
theorem dX11_stop_14 : decode cX11_stop 14 = .ok (.ifCond .ne 6, 3) := by decide +kernel
theorem dX11_stop_17 : decode cX11_stop 17 = .ok (.ldc 78, 2) := by decide +kernel
theorem dX11_stop_19 : decode cX11_stop 19 = .ok (.ireturn, 1) := by decide +kernel
theorem dX11_stop_20 : decode cX11_stop 20 = .ok (.iload_n 2, 1) := by decide +kernel
theorem dX11_stop_21 : decode cX11_stop 21 = .ok (.ifCond .ne 14, 3) := by decide +kernel
theorem dX11_stop_24 : decode cX11_stop 24 = .ok (.aload_n 0, 1) := by decide +kernel
theorem dX11_stop_25 : decode cX11_stop 25 = .ok (.getfield 45, 3) := by decide +kernel
theorem dX11_stop_28 : decode cX11_stop 28 = .ok (.iload_n 1, 1) := by decide +kernel
theorem dX11_stop_29 : decode cX11_stop 29 = .ok (.invokevirtual 193, 3) := by decide +kernel
theorem dX11_stop_32 : decode cX11_stop 32 = .ok (.goto 11, 3) := by decide +kernel
theorem dX11_stop_35 : decode cX11_stop 35 = .ok (.aload_n 0, 1) := by decide +kernel
theorem dX11_stop_36 : decode cX11_stop 36 = .ok (.getfield 45, 3) := by decide +kernel
theorem dX11_stop_39 : decode cX11_stop 39 = .ok (.iload_n 1, 1) := by decide +kernel
theorem dX11_stop_40 : decode cX11_stop 40 = .ok (.invokevirtual 196, 3) := by decide +kernel
theorem dX11_stop_43 : decode cX11_stop 43 = .ok (.ireturn, 1) := by decide +kernel
theorem dX11_where_0 : decode cX11_where 0 = .ok (.aload_n 0, 1) := by decide +kernel
theorem dX11_where_1 : decode cX11_where 1 = .ok (.iload_n 1, 1) := by decide +kernel
theorem dX11_where_2 : decode cX11_where 2 = .ok (.invokevirtual 161, 3) := by decide +kernel
theorem dX11_where_5 : decode cX11_where 5 = .ok (.ifCond .eq 13, 3) := by decide +kernel
theorem dX11_where_8 : decode cX11_where 8 = .ok (.iload_n 2, 1) := by decide +kernel
theorem dX11_where_9 : decode cX11_where 9 = .ok (.iconst 0, 1) := by decide +kernel
theorem dX11_where_10 : decode cX11_where 10 = .ok (.bipush 60, 2) := by decide +kernel
theorem dX11_where_12 : decode cX11_where 12 = .ok (.invokestatic 74, 3) := by decide +kernel
theorem dX11_where_15 : decode cX11_where 15 = .ok (.ifCond .ne 6, 3) := by decide +kernel
theorem dX11_where_18 : decode cX11_where 18 = .ok (.ldc 78, 2) := by decide +kernel
theorem dX11_where_20 : decode cX11_where 20 = .ok (.ireturn, 1) := by decide +kernel
theorem dX11_where_21 : decode cX11_where 21 = .ok (.aload_n 0, 1) := by decide +kernel
theorem dX11_where_22 : decode cX11_where 22 = .ok (.iload_n 2, 1) := by decide +kernel
theorem dX11_where_23 : decode cX11_where 23 = .ok (.invokevirtual 199, 3) := by decide +kernel
theorem dX11_where_26 : decode cX11_where 26 = .ok (.aload_n 0, 1) := by decide +kernel
theorem dX11_where_27 : decode cX11_where 27 = .ok (.getfield 49, 3) := by decide +kernel
theorem dX11_where_30 : decode cX11_where 30 = .ok (.getfield 164, 3) := by decide +kernel
theorem dX11_where_33 : decode cX11_where 33 = .ok (.iload_n 1, 1) := by decide +kernel
theorem dX11_where_34 : decode cX11_where 34 = .ok (.iaload, 1) := by decide +kernel
theorem dX11_where_35 : decode cX11_where 35 = .ok (.ireturn, 1) := by decide +kernel
theorem dX11_tram_0 : decode cX11_tram 0 = .ok (.aload_n 0, 1) := by decide +kernel
theorem dX11_tram_1 : decode cX11_tram 1 = .ok (.invokevirtual 143, 3) := by decide +kernel
theorem dX11_tram_4 : decode cX11_tram 4 = .ok (.ifCond .ne 6, 3) := by decide +kernel
theorem dX11_tram_7 : decode cX11_tram 7 = .ok (.ldc 147, 2) := by decide +kernel
theorem dX11_tram_9 : decode cX11_tram 9 = .ok (.ireturn, 1) := by decide +kernel
theorem dX11_tram_10 : decode cX11_tram 10 = .ok (.iload_n 1, 1) := by decide +kernel
theorem dX11_tram_11 : decode cX11_tram 11 = .ok (.iconst 0, 1) := by decide +kernel
theorem dX11_tram_12 : decode cX11_tram 12 = .ok (.bipush 60, 2) := by decide +kernel
theorem dX11_tram_14 : decode cX11_tram 14 = .ok (.invokestatic 74, 3) := by decide +kernel
theorem dX11_tram_17 : decode cX11_tram 17 = .ok (.ifCond .ne 6, 3) := by decide +kernel
theorem dX11_tram_20 : decode cX11_tram 20 = .ok (.ldc 78, 2) := by decide +kernel
theorem dX11_tram_22 : decode cX11_tram 22 = .ok (.ireturn, 1) := by decide +kernel
theorem dX11_tram_23 : decode cX11_tram 23 = .ok (.aload_n 0, 1) := by decide +kernel
theorem dX11_tram_24 : decode cX11_tram 24 = .ok (.iload_n 1, 1) := by decide +kernel
theorem dX11_tram_25 : decode cX11_tram 25 = .ok (.invokevirtual 199, 3) := by decide +kernel
theorem dX11_tram_28 : decode cX11_tram 28 = .ok (.aload_n 0, 1) := by decide +kernel
theorem dX11_tram_29 : decode cX11_tram 29 = .ok (.getfield 49, 3) := by decide +kernel
theorem dX11_tram_32 : decode cX11_tram 32 = .ok (.iconst 0, 1) := by decide +kernel
theorem dX11_tram_33 : decode cX11_tram 33 = .ok (.invokevirtual 202, 3) := by decide +kernel
theorem dX11_tram_36 : decode cX11_tram 36 = .ok (.istore_n 2, 1) := by decide +kernel
theorem dX11_tram_37 : decode cX11_tram 37 = .ok (.iload_n 2, 1) := by decide +kernel
theorem dX11_tram_38 : decode cX11_tram 38 = .ok (.iconst (-1), 1) := by decide +kernel
theorem dX11_tram_39 : decode cX11_tram 39 = .ok (.if_icmp .ne 8, 3) := by decide +kernel
theorem dX11_tram_42 : decode cX11_tram 42 = .ok (.ldc 205, 2) := by decide +kernel
theorem dX11_tram_44 : decode cX11_tram 44 = .ok (.goto 4, 3) := by decide +kernel
theorem dX11_tram_47 : decode cX11_tram 47 = .ok (.iload_n 2, 1) := by decide +kernel
theorem dX11_tram_48 : decode cX11_tram 48 = .ok (.ireturn, 1) := by decide +kernel
theorem dX11_there_0 : decode cX11_there 0 = .ok (.aload_n 0, 1) := by decide +kernel
theorem dX11_there_1 : decode cX11_there 1 = .ok (.invokevirtual 143, 3) := by decide +kernel
theorem dX11_there_4 : decode cX11_there 4 = .ok (.ifCond .ne 6, 3) := by decide +kernel
theorem dX11_there_7 : decode cX11_there 7 = .ok (.ldc 147, 2) := by decide +kernel
theorem dX11_there_9 : decode cX11_there 9 = .ok (.ireturn, 1) := by decide +kernel
theorem dX11_there_10 : decode cX11_there 10 = .ok (.iload_n 1, 1) := by decide +kernel
theorem dX11_there_11 : decode cX11_there 11 = .ok (.iconst 0, 1) := by decide +kernel
theorem dX11_there_12 : decode cX11_there 12 = .ok (.bipush 60, 2) := by decide +kernel
theorem dX11_there_14 : decode cX11_there 14 = .ok (.invokestatic 74, 3) := by decide +kernel
theorem dX11_there_17 : decode cX11_there 17 = .ok (.ifCond .ne 6, 3) := by decide +kernel
theorem dX11_there_20 : decode cX11_there 20 = .ok (.ldc 78, 2) := by decide +kernel
theorem dX11_there_22 : decode cX11_there 22 = .ok (.ireturn, 1) := by decide +kernel
theorem dX11_there_23 : decode cX11_there 23 = .ok (.aload_n 0, 1) := by decide +kernel
theorem dX11_there_24 : decode cX11_there 24 = .ok (.iload_n 1, 1) := by decide +kernel
theorem dX11_there_25 : decode cX11_there 25 = .ok (.invokevirtual 199, 3) := by decide +kernel
theorem dX11_there_28 : decode cX11_there 28 = .ok (.aload_n 0, 1) := by decide +kernel
theorem dX11_there_29 : decode cX11_there 29 = .ok (.getfield 49, 3) := by decide +kernel
theorem dX11_there_32 : decode cX11_there 32 = .ok (.invokevirtual 157, 3) := by decide +kernel
theorem dX11_there_35 : decode cX11_there 35 = .ok (.ireturn, 1) := by decide +kernel
theorem dX11_when_0 : decode cX11_when 0 = .ok (.aload_n 0, 1) := by decide +kernel
theorem dX11_when_1 : decode cX11_when 1 = .ok (.iload_n 1, 1) := by decide +kernel
theorem dX11_when_2 : decode cX11_when 2 = .ok (.invokevirtual 161, 3) := by decide +kernel
theorem dX11_when_5 : decode cX11_when 5 = .ok (.ifCond .ne 6, 3) := by decide +kernel
theorem dX11_when_8 : decode cX11_when 8 = .ok (.ldc 78, 2) := by decide +kernel
theorem dX11_when_10 : decode cX11_when 10 = .ok (.ireturn, 1) := by decide +kernel
theorem dX11_when_11 : decode cX11_when 11 = .ok (.aload_n 0, 1) := by decide +kernel
theorem dX11_when_12 : decode cX11_when 12 = .ok (.getfield 49, 3) := by decide +kernel
theorem dX11_when_15 : decode cX11_when 15 = .ok (.aload_n 0, 1) := by decide +kernel
theorem dX11_when_16 : decode cX11_when 16 = .ok (.getfield 45, 3) := by decide +kernel
theorem dX11_when_19 : decode cX11_when 19 = .ok (.invokevirtual 133, 3) := by decide +kernel
theorem dX11_when_22 : decode cX11_when 22 = .ok (.aload_n 0, 1) := by decide +kernel
theorem dX11_when_23 : decode cX11_when 23 = .ok (.iconst 1, 1) := by decide +kernel
theorem dX11_when_24 : decode cX11_when 24 = .ok (.iload_n 1, 1) := by decide +kernel
theorem dX11_when_25 : decode cX11_when 25 = .ok (.ishl, 1) := by decide +kernel
theorem dX11_when_26 : decode cX11_when 26 = .ok (.iconst 0, 1) := by decide +kernel
theorem dX11_when_27 : decode cX11_when 27 = .ok (.bipush 60, 2) := by decide +kernel
theorem dX11_when_29 : decode cX11_when 29 = .ok (.invokevirtual 206, 3) := by decide +kernel
theorem dX11_when_32 : decode cX11_when 32 = .ok (.ireturn, 1) := by decide +kernel
theorem dX11_all_0 : decode cX11_all 0 = .ok (.aload_n 0, 1) := by decide +kernel
theorem dX11_all_1 : decode cX11_all 1 = .ok (.invokevirtual 143, 3) := by decide +kernel
theorem dX11_all_4 : decode cX11_all 4 = .ok (.ifCond .ne 6, 3) := by decide +kernel
theorem dX11_all_7 : decode cX11_all 7 = .ok (.ldc 147, 2) := by decide +kernel
theorem dX11_all_9 : decode cX11_all 9 = .ok (.ireturn, 1) := by decide +kernel
theorem dX11_all_10 : decode cX11_all 10 = .ok (.aload_n 0, 1) := by decide +kernel
theorem dX11_all_11 : decode cX11_all 11 = .ok (.getfield 49, 3) := by decide +kernel
theorem dX11_all_14 : decode cX11_all 14 = .ok (.aload_n 0, 1) := by decide +kernel
theorem dX11_all_15 : decode cX11_all 15 = .ok (.getfield 45, 3) := by decide +kernel
theorem dX11_all_18 : decode cX11_all 18 = .ok (.invokevirtual 133, 3) := by decide +kernel
theorem dX11_all_21 : decode cX11_all 21 = .ok (.aload_n 0, 1) := by decide +kernel
theorem dX11_all_22 : decode cX11_all 22 = .ok (.aload_n 0, 1) := by decide +kernel
theorem dX11_all_23 : decode cX11_all 23 = .ok (.getfield 45, 3) := by decide +kernel
theorem dX11_all_26 : decode cX11_all 26 = .ok (.invokevirtual 209, 3) := by decide +kernel
theorem dX11_all_29 : decode cX11_all 29 = .ok (.iconst 0, 1) := by decide +kernel
theorem dX11_all_30 : decode cX11_all 30 = .ok (.bipush 60, 2) := by decide +kernel
theorem dX11_all_32 : decode cX11_all 32 = .ok (.invokevirtual 206, 3) := by decide +kernel
theorem dX11_all_35 : decode cX11_all 35 = .ok (.ireturn, 1) := by decide +kernel
theorem dX11_never_0 : decode cX11_never 0 = .ok (.aload_n 0, 1) := by decide +kernel
theorem dX11_never_1 : decode cX11_never 1 = .ok (.invokevirtual 143, 3) := by decide +kernel
theorem dX11_never_4 : decode cX11_never 4 = .ok (.ifCond .ne 6, 3) := by decide +kernel
theorem dX11_never_7 : decode cX11_never 7 = .ok (.ldc 147, 2) := by decide +kernel
theorem dX11_never_9 : decode cX11_never 9 = .ok (.ireturn, 1) := by decide +kernel
theorem dX11_never_10 : decode cX11_never 10 = .ok (.aload_n 0, 1) := by decide +kernel
theorem dX11_never_11 : decode cX11_never 11 = .ok (.bipush 60, 2) := by decide +kernel
theorem dX11_never_13 : decode cX11_never 13 = .ok (.invokevirtual 199, 3) := by decide +kernel
theorem dX11_never_16 : decode cX11_never 16 = .ok (.aload_n 0, 1) := by decide +kernel
theorem dX11_never_17 : decode cX11_never 17 = .ok (.getfield 45, 3) := by decide +kernel
theorem dX11_never_20 : decode cX11_never 20 = .ok (.invokevirtual 209, 3) := by decide +kernel
theorem dX11_never_23 : decode cX11_never 23 = .ok (.aload_n 0, 1) := by decide +kernel
theorem dX11_never_24 : decode cX11_never 24 = .ok (.getfield 49, 3) := by decide +kernel
theorem dX11_never_27 : decode cX11_never 27 = .ok (.invokevirtual 157, 3) := by decide +kernel
theorem dX11_never_30 : decode cX11_never 30 = .ok (.iconst (-1), 1) := by decide +kernel
theorem dX11_never_31 : decode cX11_never 31 = .ok (.ixor, 1) := by decide +kernel
theorem dX11_never_32 : decode cX11_never 32 = .ok (.iand, 1) := by decide +kernel
theorem dX11_never_33 : decode cX11_never 33 = .ok (.ireturn, 1) := by decide +kernel
theorem dX11_holding_0 : decode cX11_holding 0 = .ok (.aload_n 0, 1) := by decide +kernel
theorem dX11_holding_1 : decode cX11_holding 1 = .ok (.invokevirtual 143, 3) := by decide +kernel
theorem dX11_holding_4 : decode cX11_holding 4 = .ok (.ifCond .ne 6, 3) := by decide +kernel
theorem dX11_holding_7 : decode cX11_holding 7 = .ok (.ldc 147, 2) := by decide +kernel
theorem dX11_holding_9 : decode cX11_holding 9 = .ok (.ireturn, 1) := by decide +kernel
theorem dX11_holding_10 : decode cX11_holding 10 = .ok (.aload_n 0, 1) := by decide +kernel
theorem dX11_holding_11 : decode cX11_holding 11 = .ok (.getfield 45, 3) := by decide +kernel
theorem dX11_holding_14 : decode cX11_holding 14 = .ok (.invokevirtual 212, 3) := by decide +kernel
theorem dX11_holding_17 : decode cX11_holding 17 = .ok (.ireturn, 1) := by decide +kernel
theorem dX11_call_0 : decode cX11_call 0 = .ok (.aload_n 0, 1) := by decide +kernel
theorem dX11_call_1 : decode cX11_call 1 = .ok (.iload_n 1, 1) := by decide +kernel
theorem dX11_call_2 : decode cX11_call 2 = .ok (.invokevirtual 168, 3) := by decide +kernel
theorem dX11_call_5 : decode cX11_call 5 = .ok (.ifCond .eq 12, 3) := by decide +kernel
theorem dX11_call_8 : decode cX11_call 8 = .ok (.iload_n 2, 1) := by decide +kernel
theorem dX11_call_9 : decode cX11_call 9 = .ok (.iconst 0, 1) := by decide +kernel
theorem dX11_call_10 : decode cX11_call 10 = .ok (.iconst 1, 1) := by decide +kernel
theorem dX11_call_11 : decode cX11_call 11 = .ok (.invokestatic 74, 3) := by decide +kernel
theorem dX11_call_14 : decode cX11_call 14 = .ok (.ifCond .ne 6, 3) := by decide +kernel
theorem dX11_call_17 : decode cX11_call 17 = .ok (.ldc 78, 2) := by decide +kernel
theorem dX11_call_19 : decode cX11_call 19 = .ok (.ireturn, 1) := by decide +kernel
theorem dX11_call_20 : decode cX11_call 20 = .ok (.aload_n 0, 1) := by decide +kernel
theorem dX11_call_21 : decode cX11_call 21 = .ok (.getfield 49, 3) := by decide +kernel
theorem dX11_call_24 : decode cX11_call 24 = .ok (.aload_n 0, 1) := by decide +kernel
theorem dX11_call_25 : decode cX11_call 25 = .ok (.getfield 45, 3) := by decide +kernel
theorem dX11_call_28 : decode cX11_call 28 = .ok (.invokevirtual 133, 3) := by decide +kernel
theorem dX11_call_31 : decode cX11_call 31 = .ok (.iconst 0, 1) := by decide +kernel
theorem dX11_call_32 : decode cX11_call 32 = .ok (.istore_n 3, 1) := by decide +kernel
theorem dX11_call_33 : decode cX11_call 33 = .ok (.iload_n 3, 1) := by decide +kernel
theorem dX11_call_34 : decode cX11_call 34 = .ok (.bipush 40, 2) := by decide +kernel
theorem dX11_call_36 : decode cX11_call 36 = .ok (.if_icmp .gt 35, 3) := by decide +kernel
theorem dX11_call_39 : decode cX11_call 39 = .ok (.aload_n 0, 1) := by decide +kernel
theorem dX11_call_40 : decode cX11_call 40 = .ok (.iload_n 1, 1) := by decide +kernel
theorem dX11_call_41 : decode cX11_call 41 = .ok (.iload_n 3, 1) := by decide +kernel
theorem dX11_call_42 : decode cX11_call 42 = .ok (.invokevirtual 215, 3) := by decide +kernel
theorem dX11_call_45 : decode cX11_call 45 = .ok (.istore 4, 2) := by decide +kernel
theorem dX11_call_47 : decode cX11_call 47 = .ok (.iload 4, 2) := by decide +kernel
theorem dX11_call_49 : decode cX11_call 49 = .ok (.ldc 205, 2) := by decide +kernel
theorem dX11_call_51 : decode cX11_call 51 = .ok (.if_icmp .eq 14, 3) := by decide +kernel
theorem dX11_call_54 : decode cX11_call 54 = .ok (.iload_n 2, 1) := by decide +kernel
theorem dX11_call_55 : decode cX11_call 55 = .ok (.ifCond .ne 7, 3) := by decide +kernel
theorem dX11_call_58 : decode cX11_call 58 = .ok (.iload_n 3, 1) := by decide +kernel
theorem dX11_call_59 : decode cX11_call 59 = .ok (.goto 5, 3) := by decide +kernel
theorem dX11_call_62 : decode cX11_call 62 = .ok (.iload 4, 2) := by decide +kernel
theorem dX11_call_64 : decode cX11_call 64 = .ok (.ireturn, 1) := by decide +kernel
theorem dX11_call_65 : decode cX11_call 65 = .ok (.iinc 3 1, 3) := by decide +kernel
theorem dX11_call_68 : decode cX11_call 68 = .ok (.goto (-35), 3) := by decide +kernel
theorem dX11_call_71 : decode cX11_call 71 = .ok (.ldc 205, 2) := by decide +kernel
theorem dX11_call_73 : decode cX11_call 73 = .ok (.ireturn, 1) := by decide +kernel
theorem dX11_go_0 : decode cX11_go 0 = .ok (.aload_n 0, 1) := by decide +kernel
theorem dX11_go_1 : decode cX11_go 1 = .ok (.iload_n 1, 1) := by decide +kernel
theorem dX11_go_2 : decode cX11_go 2 = .ok (.invokevirtual 161, 3) := by decide +kernel
theorem dX11_go_5 : decode cX11_go 5 = .ok (.ifCond .eq 12, 3) := by decide +kernel
theorem dX11_go_8 : decode cX11_go 8 = .ok (.iload_n 2, 1) := by decide +kernel
theorem dX11_go_9 : decode cX11_go 9 = .ok (.iconst 0, 1) := by decide +kernel
theorem dX11_go_10 : decode cX11_go 10 = .ok (.iconst 1, 1) := by decide +kernel
theorem dX11_go_11 : decode cX11_go 11 = .ok (.invokestatic 74, 3) := by decide +kernel
theorem dX11_go_14 : decode cX11_go 14 = .ok (.ifCond .ne 6, 3) := by decide +kernel
theorem dX11_go_17 : decode cX11_go 17 = .ok (.ldc 78, 2) := by decide +kernel
theorem dX11_go_19 : decode cX11_go 19 = .ok (.ireturn, 1) := by decide +kernel
theorem dX11_go_20 : decode cX11_go 20 = .ok (.ldc 205, 2) := by decide +kernel
theorem dX11_go_22 : decode cX11_go 22 = .ok (.istore_n 3, 1) := by decide +kernel
theorem dX11_go_23 : decode cX11_go 23 = .ok (.ldc 205, 2) := by decide +kernel
theorem dX11_go_25 : decode cX11_go 25 = .ok (.istore 4, 2) := by decide +kernel
theorem dX11_go_27 : decode cX11_go 27 = .ok (.iconst 0, 1) := by decide +kernel
theorem dX11_go_28 : decode cX11_go 28 = .ok (.istore 5, 2) := by decide +kernel
theorem dX11_go_30 : decode cX11_go 30 = .ok (.iload 5, 2) := by decide +kernel
theorem dX11_go_32 : decode cX11_go 32 = .ok (.aload_n 0, 1) := by decide +kernel
theorem dX11_go_33 : decode cX11_go 33 = .ok (.getfield 45, 3) := by decide +kernel
theorem dX11_go_36 : decode cX11_go 36 = .ok (.getfield 219, 3) := by decide +kernel
theorem dX11_go_39 : decode cX11_go 39 = .ok (.if_icmp .ge 65, 3) := by decide +kernel
theorem dX11_go_42 : decode cX11_go 42 = .ok (.iload 5, 2) := by decide +kernel
theorem dX11_go_44 : decode cX11_go 44 = .ok (.aload_n 0, 1) := by decide +kernel
theorem dX11_go_45 : decode cX11_go 45 = .ok (.getfield 45, 3) := by decide +kernel
theorem dX11_go_48 : decode cX11_go 48 = .ok (.getfield 178, 3) := by decide +kernel
theorem dX11_go_51 : decode cX11_go 51 = .ok (.iload_n 1, 1) := by decide +kernel
theorem dX11_go_52 : decode cX11_go 52 = .ok (.iaload, 1) := by decide +kernel
theorem dX11_go_53 : decode cX11_go 53 = .ok (.if_icmp .ne 8, 3) := by decide +kernel
theorem dX11_go_56 : decode cX11_go 56 = .ok (.ldc 205, 2) := by decide +kernel
theorem dX11_go_58 : decode cX11_go 58 = .ok (.goto 10, 3) := by decide +kernel
theorem dX11_go_61 : decode cX11_go 61 = .ok (.aload_n 0, 1) := by decide +kernel
theorem dX11_go_62 : decode cX11_go 62 = .ok (.iload_n 1, 1) := by decide +kernel
theorem dX11_go_63 : decode cX11_go 63 = .ok (.iload 5, 2) := by decide +kernel
theorem dX11_go_65 : decode cX11_go 65 = .ok (.invokevirtual 222, 3) := by decide +kernel
theorem dX11_go_68 : decode cX11_go 68 = .ok (.istore 6, 2) := by decide +kernel
theorem dX11_go_70 : decode cX11_go 70 = .ok (.iload 6, 2) := by decide +kernel
theorem dX11_go_72 : decode cX11_go 72 = .ok (.ldc 205, 2) := by decide +kernel
theorem dX11_go_74 : decode cX11_go 74 = .ok (.if_icmp .eq 24, 3) := by decide +kernel
theorem dX11_go_77 : decode cX11_go 77 = .ok (.iload 4, 2) := by decide +kernel
theorem dX11_go_79 : decode cX11_go 79 = .ok (.ldc 205, 2) := by decide +kernel
theorem dX11_go_81 : decode cX11_go 81 = .ok (.if_icmp .eq 10, 3) := by decide +kernel
theorem dX11_go_84 : decode cX11_go 84 = .ok (.iload 6, 2) := by decide +kernel
theorem dX11_go_86 : decode cX11_go 86 = .ok (.iload 4, 2) := by decide +kernel
theorem dX11_go_88 : decode cX11_go 88 = .ok (.if_icmp .ge 10, 3) := by decide +kernel
theorem dX11_go_91 : decode cX11_go 91 = .ok (.iload 5, 2) := by decide +kernel
theorem dX11_go_93 : decode cX11_go 93 = .ok (.istore_n 3, 1) := by decide +kernel
theorem dX11_go_94 : decode cX11_go 94 = .ok (.iload 6, 2) := by decide +kernel
theorem dX11_go_96 : decode cX11_go 96 = .ok (.istore 4, 2) := by decide +kernel
theorem dX11_go_98 : decode cX11_go 98 = .ok (.iinc 5 1, 3) := by decide +kernel
theorem dX11_go_101 : decode cX11_go 101 = .ok (.goto (-71), 3) := by decide +kernel
theorem dX11_go_104 : decode cX11_go 104 = .ok (.iload_n 2, 1) := by decide +kernel
theorem dX11_go_105 : decode cX11_go 105 = .ok (.ifCond .ne 7, 3) := by decide +kernel
theorem dX11_go_108 : decode cX11_go 108 = .ok (.iload_n 3, 1) := by decide +kernel
theorem dX11_go_109 : decode cX11_go 109 = .ok (.goto 5, 3) := by decide +kernel
theorem dX11_go_112 : decode cX11_go 112 = .ok (.iload 4, 2) := by decide +kernel
theorem dX11_go_114 : decode cX11_go 114 = .ok (.ireturn, 1) := by decide +kernel
theorem dX11_walkers_0 : decode cX11_walkers 0 = .ok (.aload_n 0, 1) := by decide +kernel
theorem dX11_walkers_1 : decode cX11_walkers 1 = .ok (.invokevirtual 143, 3) := by decide +kernel
theorem dX11_walkers_4 : decode cX11_walkers 4 = .ok (.ifCond .ne 6, 3) := by decide +kernel
theorem dX11_walkers_7 : decode cX11_walkers 7 = .ok (.ldc 147, 2) := by decide +kernel
theorem dX11_walkers_9 : decode cX11_walkers 9 = .ok (.ireturn, 1) := by decide +kernel
theorem dX11_walkers_10 : decode cX11_walkers 10 = .ok (.iload_n 1, 1) := by decide +kernel
theorem dX11_walkers_11 : decode cX11_walkers 11 = .ok (.iconst 0, 1) := by decide +kernel
theorem dX11_walkers_12 : decode cX11_walkers 12 = .ok (.bipush 60, 2) := by decide +kernel
theorem dX11_walkers_14 : decode cX11_walkers 14 = .ok (.invokestatic 74, 3) := by decide +kernel
theorem dX11_walkers_17 : decode cX11_walkers 17 = .ok (.ifCond .eq 12, 3) := by decide +kernel
theorem dX11_walkers_20 : decode cX11_walkers 20 = .ok (.iload_n 2, 1) := by decide +kernel
theorem dX11_walkers_21 : decode cX11_walkers 21 = .ok (.iconst 0, 1) := by decide +kernel
theorem dX11_walkers_22 : decode cX11_walkers 22 = .ok (.iconst 1, 1) := by decide +kernel
theorem dX11_walkers_23 : decode cX11_walkers 23 = .ok (.invokestatic 74, 3) := by decide +kernel
theorem dX11_walkers_26 : decode cX11_walkers 26 = .ok (.ifCond .ne 6, 3) := by decide +kernel
theorem dX11_walkers_29 : decode cX11_walkers 29 = .ok (.ldc 78, 2) := by decide +kernel
theorem dX11_walkers_31 : decode cX11_walkers 31 = .ok (.ireturn, 1) := by decide +kernel
theorem dX11_walkers_32 : decode cX11_walkers 32 = .ok (.iconst 0, 1) := by decide +kernel
theorem dX11_walkers_33 : decode cX11_walkers 33 = .ok (.istore_n 3, 1) := by decide +kernel
theorem dX11_walkers_34 : decode cX11_walkers 34 = .ok (.iload_n 3, 1) := by decide +kernel
theorem dX11_walkers_35 : decode cX11_walkers 35 = .ok (.aload_n 0, 1) := by decide +kernel
theorem dX11_walkers_36 : decode cX11_walkers 36 = .ok (.getfield 45, 3) := by decide +kernel
theorem dX11_walkers_39 : decode cX11_walkers 39 = .ok (.getfield 140, 3) := by decide +kernel
theorem dX11_walkers_42 : decode cX11_walkers 42 = .ok (.if_icmp .gt 35, 3) := by decide +kernel
theorem dX11_walkers_45 : decode cX11_walkers 45 = .ok (.aload_n 0, 1) := by decide +kernel
theorem dX11_walkers_46 : decode cX11_walkers 46 = .ok (.iload_n 3, 1) := by decide +kernel
theorem dX11_walkers_47 : decode cX11_walkers 47 = .ok (.iload_n 1, 1) := by decide +kernel
theorem dX11_walkers_48 : decode cX11_walkers 48 = .ok (.invokevirtual 225, 3) := by decide +kernel
theorem dX11_walkers_51 : decode cX11_walkers 51 = .ok (.istore 4, 2) := by decide +kernel
theorem dX11_walkers_53 : decode cX11_walkers 53 = .ok (.iload 4, 2) := by decide +kernel
theorem dX11_walkers_55 : decode cX11_walkers 55 = .ok (.ldc 205, 2) := by decide +kernel
theorem dX11_walkers_57 : decode cX11_walkers 57 = .ok (.if_icmp .eq 14, 3) := by decide +kernel
theorem dX11_walkers_60 : decode cX11_walkers 60 = .ok (.iload_n 2, 1) := by decide +kernel
theorem dX11_walkers_61 : decode cX11_walkers 61 = .ok (.ifCond .ne 7, 3) := by decide +kernel
theorem dX11_walkers_64 : decode cX11_walkers 64 = .ok (.iload_n 3, 1) := by decide +kernel
theorem dX11_walkers_65 : decode cX11_walkers 65 = .ok (.goto 5, 3) := by decide +kernel
theorem dX11_walkers_68 : decode cX11_walkers 68 = .ok (.iload 4, 2) := by decide +kernel
theorem dX11_walkers_70 : decode cX11_walkers 70 = .ok (.ireturn, 1) := by decide +kernel
theorem dX11_walkers_71 : decode cX11_walkers 71 = .ok (.iinc 3 1, 3) := by decide +kernel
theorem dX11_walkers_74 : decode cX11_walkers 74 = .ok (.goto (-40), 3) := by decide +kernel
theorem dX11_walkers_77 : decode cX11_walkers 77 = .ok (.ldc 205, 2) := by decide +kernel
theorem dX11_walkers_79 : decode cX11_walkers 79 = .ok (.ireturn, 1) := by decide +kernel
theorem dX11_fits_0 : decode cX11_fits 0 = .ok (.aload_n 0, 1) := by decide +kernel
theorem dX11_fits_1 : decode cX11_fits 1 = .ok (.iload_n 1, 1) := by decide +kernel
theorem dX11_fits_2 : decode cX11_fits 2 = .ok (.invokevirtual 161, 3) := by decide +kernel
theorem dX11_fits_5 : decode cX11_fits 5 = .ok (.ifCond .eq 31, 3) := by decide +kernel
theorem dX11_fits_8 : decode cX11_fits 8 = .ok (.iload_n 2, 1) := by decide +kernel
theorem dX11_fits_9 : decode cX11_fits 9 = .ok (.invokestatic 70, 3) := by decide +kernel
theorem dX11_fits_12 : decode cX11_fits 12 = .ok (.ifCond .eq 24, 3) := by decide +kernel
theorem dX11_fits_15 : decode cX11_fits 15 = .ok (.iload 4, 2) := by decide +kernel
theorem dX11_fits_17 : decode cX11_fits 17 = .ok (.iconst 1, 1) := by decide +kernel
theorem dX11_fits_18 : decode cX11_fits 18 = .ok (.bipush 16, 2) := by decide +kernel
theorem dX11_fits_20 : decode cX11_fits 20 = .ok (.invokestatic 74, 3) := by decide +kernel
theorem dX11_fits_23 : decode cX11_fits 23 = .ok (.ifCond .eq 13, 3) := by decide +kernel
theorem dX11_fits_26 : decode cX11_fits 26 = .ok (.iload 5, 2) := by decide +kernel
theorem dX11_fits_28 : decode cX11_fits 28 = .ok (.iconst 0, 1) := by decide +kernel
theorem dX11_fits_29 : decode cX11_fits 29 = .ok (.iconst 1, 1) := by decide +kernel
theorem dX11_fits_30 : decode cX11_fits 30 = .ok (.invokestatic 74, 3) := by decide +kernel
theorem dX11_fits_33 : decode cX11_fits 33 = .ok (.ifCond .ne 6, 3) := by decide +kernel
theorem dX11_fits_36 : decode cX11_fits 36 = .ok (.ldc 78, 2) := by decide +kernel
theorem dX11_fits_38 : decode cX11_fits 38 = .ok (.ireturn, 1) := by decide +kernel
theorem dX11_fits_39 : decode cX11_fits 39 = .ok (.aload_n 0, 1) := by decide +kernel
theorem dX11_fits_40 : decode cX11_fits 40 = .ok (.getfield 27, 3) := by decide +kernel
theorem dX11_fits_43 : decode cX11_fits 43 = .ok (.iload_n 2, 1) := by decide +kernel
theorem dX11_fits_44 : decode cX11_fits 44 = .ok (.iload_n 3, 1) := by decide +kernel
theorem dX11_fits_45 : decode cX11_fits 45 = .ok (.iload 4, 2) := by decide +kernel
theorem dX11_fits_47 : decode cX11_fits 47 = .ok (.invokevirtual 90, 3) := by decide +kernel
theorem dX11_fits_50 : decode cX11_fits 50 = .ok (.istore 6, 2) := by decide +kernel
theorem dX11_fits_52 : decode cX11_fits 52 = .ok (.iload 6, 2) := by decide +kernel
theorem dX11_fits_54 : decode cX11_fits 54 = .ok (.ifCond .eq 10, 3) := by decide +kernel
theorem dX11_fits_57 : decode cX11_fits 57 = .ok (.aload_n 0, 1) := by decide +kernel
theorem dX11_fits_58 : decode cX11_fits 58 = .ok (.iload 6, 2) := by decide +kernel
theorem dX11_fits_60 : decode cX11_fits 60 = .ok (.invokevirtual 79, 3) := by decide +kernel
theorem dX11_fits_63 : decode cX11_fits 63 = .ok (.ireturn, 1) := by decide +kernel
theorem dX11_fits_64 : decode cX11_fits 64 = .ok (.aload_n 0, 1) := by decide +kernel
theorem dX11_fits_65 : decode cX11_fits 65 = .ok (.iload 5, 2) := by decide +kernel
theorem dX11_fits_67 : decode cX11_fits 67 = .ok (.ifCond .ne 15, 3) := by decide +kernel
theorem dX11_fits_70 : decode cX11_fits 70 = .ok (.aload_n 0, 1) := by decide +kernel
theorem dX11_fits_71 : decode cX11_fits 71 = .ok (.iload_n 1, 1) := by decide +kernel
theorem dX11_fits_72 : decode cX11_fits 72 = .ok (.iload_n 2, 1) := by decide +kernel
theorem dX11_fits_73 : decode cX11_fits 73 = .ok (.iload_n 3, 1) := by decide +kernel
theorem dX11_fits_74 : decode cX11_fits 74 = .ok (.iload 4, 2) := by decide +kernel
theorem dX11_fits_76 : decode cX11_fits 76 = .ok (.invokevirtual 228, 3) := by decide +kernel
theorem dX11_fits_79 : decode cX11_fits 79 = .ok (.goto 12, 3) := by decide +kernel
theorem dX11_fits_82 : decode cX11_fits 82 = .ok (.aload_n 0, 1) := by decide +kernel
theorem dX11_fits_83 : decode cX11_fits 83 = .ok (.iload_n 1, 1) := by decide +kernel
theorem dX11_fits_84 : decode cX11_fits 84 = .ok (.iload_n 2, 1) := by decide +kernel
theorem dX11_fits_85 : decode cX11_fits 85 = .ok (.iload_n 3, 1) := by decide +kernel
theorem dX11_fits_86 : decode cX11_fits 86 = .ok (.iload 4, 2) := by decide +kernel
theorem dX11_fits_88 : decode cX11_fits 88 = .ok (.invokevirtual 232, 3) := by decide +kernel
theorem dX11_fits_91 : decode cX11_fits 91 = .ok (.invokevirtual 87, 3) := by decide +kernel
theorem dX11_fits_94 : decode cX11_fits 94 = .ok (.ireturn, 1) := by decide +kernel
theorem dX11_bounds_0 : decode cX11_bounds 0 = .ok (.aload_n 0, 1) := by decide +kernel
theorem dX11_bounds_1 : decode cX11_bounds 1 = .ok (.invokevirtual 143, 3) := by decide +kernel
theorem dX11_bounds_4 : decode cX11_bounds 4 = .ok (.ifCond .ne 6, 3) := by decide +kernel
theorem dX11_bounds_7 : decode cX11_bounds 7 = .ok (.ldc 147, 2) := by decide +kernel
theorem dX11_bounds_9 : decode cX11_bounds 9 = .ok (.ireturn, 1) := by decide +kernel
theorem dX11_bounds_10 : decode cX11_bounds 10 = .ok (.iload_n 1, 1) := by decide +kernel
theorem dX11_bounds_11 : decode cX11_bounds 11 = .ok (.invokestatic 70, 3) := by decide +kernel
theorem dX11_bounds_14 : decode cX11_bounds 14 = .ok (.ifCond .eq 13, 3) := by decide +kernel
theorem dX11_bounds_17 : decode cX11_bounds 17 = .ok (.iload_n 3, 1) := by decide +kernel
theorem dX11_bounds_18 : decode cX11_bounds 18 = .ok (.iconst 1, 1) := by decide +kernel
theorem dX11_bounds_19 : decode cX11_bounds 19 = .ok (.bipush 16, 2) := by decide +kernel
theorem dX11_bounds_21 : decode cX11_bounds 21 = .ok (.invokestatic 74, 3) := by decide +kernel
theorem dX11_bounds_24 : decode cX11_bounds 24 = .ok (.ifCond .ne 6, 3) := by decide +kernel
theorem dX11_bounds_27 : decode cX11_bounds 27 = .ok (.ldc 78, 2) := by decide +kernel
theorem dX11_bounds_29 : decode cX11_bounds 29 = .ok (.ireturn, 1) := by decide +kernel
theorem dX11_bounds_30 : decode cX11_bounds 30 = .ok (.aload_n 0, 1) := by decide +kernel
theorem dX11_bounds_31 : decode cX11_bounds 31 = .ok (.getfield 27, 3) := by decide +kernel
theorem dX11_bounds_34 : decode cX11_bounds 34 = .ok (.iload_n 1, 1) := by decide +kernel
theorem dX11_bounds_35 : decode cX11_bounds 35 = .ok (.iload_n 2, 1) := by decide +kernel
theorem dX11_bounds_36 : decode cX11_bounds 36 = .ok (.iload_n 3, 1) := by decide +kernel
theorem dX11_bounds_37 : decode cX11_bounds 37 = .ok (.invokevirtual 90, 3) := by decide +kernel
theorem dX11_bounds_40 : decode cX11_bounds 40 = .ok (.istore 4, 2) := by decide +kernel
theorem dX11_bounds_42 : decode cX11_bounds 42 = .ok (.iload 4, 2) := by decide +kernel
theorem dX11_bounds_44 : decode cX11_bounds 44 = .ok (.ifCond .eq 10, 3) := by decide +kernel
theorem dX11_bounds_47 : decode cX11_bounds 47 = .ok (.aload_n 0, 1) := by decide +kernel
theorem dX11_bounds_48 : decode cX11_bounds 48 = .ok (.iload 4, 2) := by decide +kernel
theorem dX11_bounds_50 : decode cX11_bounds 50 = .ok (.invokevirtual 79, 3) := by decide +kernel
theorem dX11_bounds_53 : decode cX11_bounds 53 = .ok (.ireturn, 1) := by decide +kernel
theorem dX11_bounds_54 : decode cX11_bounds 54 = .ok (.aload_n 0, 1) := by decide +kernel
theorem dX11_bounds_55 : decode cX11_bounds 55 = .ok (.aload_n 0, 1) := by decide +kernel
theorem dX11_bounds_56 : decode cX11_bounds 56 = .ok (.iload_n 1, 1) := by decide +kernel
theorem dX11_bounds_57 : decode cX11_bounds 57 = .ok (.iload_n 2, 1) := by decide +kernel
theorem dX11_bounds_58 : decode cX11_bounds 58 = .ok (.iload_n 3, 1) := by decide +kernel
theorem dX11_bounds_59 : decode cX11_bounds 59 = .ok (.invokevirtual 235, 3) := by decide +kernel
theorem dX11_bounds_62 : decode cX11_bounds 62 = .ok (.invokevirtual 87, 3) := by decide +kernel
theorem dX11_bounds_65 : decode cX11_bounds 65 = .ok (.ireturn, 1) := by decide +kernel
theorem dX11_rain_0 : decode cX11_rain 0 = .ok (.aload_n 0, 1) := by decide +kernel
theorem dX11_rain_1 : decode cX11_rain 1 = .ok (.iload_n 1, 1) := by decide +kernel
theorem dX11_rain_2 : decode cX11_rain 2 = .ok (.invokevirtual 168, 3) := by decide +kernel
theorem dX11_rain_5 : decode cX11_rain 5 = .ok (.ifCond .eq 22, 3) := by decide +kernel
theorem dX11_rain_8 : decode cX11_rain 8 = .ok (.iload_n 2, 1) := by decide +kernel
theorem dX11_rain_9 : decode cX11_rain 9 = .ok (.iconst 0, 1) := by decide +kernel
theorem dX11_rain_10 : decode cX11_rain 10 = .ok (.bipush 10, 2) := by decide +kernel
theorem dX11_rain_12 : decode cX11_rain 12 = .ok (.invokestatic 74, 3) := by decide +kernel
theorem dX11_rain_15 : decode cX11_rain 15 = .ok (.ifCond .eq 12, 3) := by decide +kernel
theorem dX11_rain_18 : decode cX11_rain 18 = .ok (.iload_n 3, 1) := by decide +kernel
theorem dX11_rain_19 : decode cX11_rain 19 = .ok (.iconst 0, 1) := by decide +kernel
theorem dX11_rain_20 : decode cX11_rain 20 = .ok (.iconst 1, 1) := by decide +kernel
theorem dX11_rain_21 : decode cX11_rain 21 = .ok (.invokestatic 74, 3) := by decide +kernel
theorem dX11_rain_24 : decode cX11_rain 24 = .ok (.ifCond .ne 6, 3) := by decide +kernel
theorem dX11_rain_27 : decode cX11_rain 27 = .ok (.ldc 78, 2) := by decide +kernel
theorem dX11_rain_29 : decode cX11_rain 29 = .ok (.ireturn, 1) := by decide +kernel
theorem dX11_rain_30 : decode cX11_rain 30 = .ok (.iconst 0, 1) := by decide +kernel
theorem dX11_rain_31 : decode cX11_rain 31 = .ok (.istore 4, 2) := by decide +kernel
theorem dX11_rain_33 : decode cX11_rain 33 = .ok (.iconst 0, 1) := by decide +kernel
theorem dX11_rain_34 : decode cX11_rain 34 = .ok (.istore 5, 2) := by decide +kernel
theorem dX11_rain_36 : decode cX11_rain 36 = .ok (.iconst 0, 1) := by decide +kernel
theorem dX11_rain_37 : decode cX11_rain 37 = .ok (.istore 6, 2) := by decide +kernel
theorem dX11_rain_39 : decode cX11_rain 39 = .ok (.iload 6, 2) := by decide +kernel
theorem dX11_rain_41 : decode cX11_rain 41 = .ok (.aload_n 0, 1) := by decide +kernel
theorem dX11_rain_42 : decode cX11_rain 42 = .ok (.getfield 45, 3) := by decide +kernel
theorem dX11_rain_45 : decode cX11_rain 45 = .ok (.invokevirtual 209, 3) := by decide +kernel
theorem dX11_rain_48 : decode cX11_rain 48 = .ok (.if_icmp .gt 45, 3) := by decide +kernel
theorem dX11_rain_51 : decode cX11_rain 51 = .ok (.aload_n 0, 1) := by decide +kernel
theorem dX11_rain_52 : decode cX11_rain 52 = .ok (.iload 6, 2) := by decide +kernel
theorem dX11_rain_54 : decode cX11_rain 54 = .ok (.iload_n 2, 1) := by decide +kernel
theorem dX11_rain_55 : decode cX11_rain 55 = .ok (.invokevirtual 238, 3) := by decide +kernel
theorem dX11_rain_58 : decode cX11_rain 58 = .ok (.istore 7, 2) := by decide +kernel
theorem dX11_rain_60 : decode cX11_rain 60 = .ok (.iload 5, 2) := by decide +kernel
theorem dX11_rain_62 : decode cX11_rain 62 = .ok (.iload 7, 2) := by decide +kernel
theorem dX11_rain_64 : decode cX11_rain 64 = .ok (.iadd, 1) := by decide +kernel
theorem dX11_rain_65 : decode cX11_rain 65 = .ok (.istore 5, 2) := by decide +kernel
theorem dX11_rain_67 : decode cX11_rain 67 = .ok (.aload_n 0, 1) := by decide +kernel
theorem dX11_rain_68 : decode cX11_rain 68 = .ok (.getfield 45, 3) := by decide +kernel
theorem dX11_rain_71 : decode cX11_rain 71 = .ok (.iload 6, 2) := by decide +kernel
theorem dX11_rain_73 : decode cX11_rain 73 = .ok (.invokevirtual 202, 3) := by decide +kernel
theorem dX11_rain_76 : decode cX11_rain 76 = .ok (.iload_n 1, 1) := by decide +kernel
theorem dX11_rain_77 : decode cX11_rain 77 = .ok (.if_icmp .ne 10, 3) := by decide +kernel
theorem dX11_rain_80 : decode cX11_rain 80 = .ok (.iload 4, 2) := by decide +kernel
theorem dX11_rain_82 : decode cX11_rain 82 = .ok (.iload 7, 2) := by decide +kernel
theorem dX11_rain_84 : decode cX11_rain 84 = .ok (.iadd, 1) := by decide +kernel
theorem dX11_rain_85 : decode cX11_rain 85 = .ok (.istore 4, 2) := by decide +kernel
theorem dX11_rain_87 : decode cX11_rain 87 = .ok (.iinc 6 1, 3) := by decide +kernel
theorem dX11_rain_90 : decode cX11_rain 90 = .ok (.goto (-51), 3) := by decide +kernel
theorem dX11_rain_93 : decode cX11_rain 93 = .ok (.iload_n 3, 1) := by decide +kernel
theorem dX11_rain_94 : decode cX11_rain 94 = .ok (.ifCond .ne 8, 3) := by decide +kernel
theorem dX11_rain_97 : decode cX11_rain 97 = .ok (.iload 4, 2) := by decide +kernel
theorem dX11_rain_99 : decode cX11_rain 99 = .ok (.goto 5, 3) := by decide +kernel
theorem dX11_rain_102 : decode cX11_rain 102 = .ok (.iload 5, 2) := by decide +kernel
theorem dX11_rain_104 : decode cX11_rain 104 = .ok (.iload 4, 2) := by decide +kernel
theorem dX11_rain_106 : decode cX11_rain 106 = .ok (.iload 5, 2) := by decide +kernel
theorem dX11_rain_108 : decode cX11_rain 108 = .ok (.invokestatic 241, 3) := by decide +kernel
theorem dX11_rain_111 : decode cX11_rain 111 = .ok (.idiv, 1) := by decide +kernel
theorem dX11_rain_112 : decode cX11_rain 112 = .ok (.ireturn, 1) := by decide +kernel
theorem dX11_drawn_0 : decode cX11_drawn 0 = .ok (.aload_n 0, 1) := by decide +kernel
theorem dX11_drawn_1 : decode cX11_drawn 1 = .ok (.invokevirtual 143, 3) := by decide +kernel
theorem dX11_drawn_4 : decode cX11_drawn 4 = .ok (.ifCond .ne 6, 3) := by decide +kernel
theorem dX11_drawn_7 : decode cX11_drawn 7 = .ok (.ldc 147, 2) := by decide +kernel
theorem dX11_drawn_9 : decode cX11_drawn 9 = .ok (.ireturn, 1) := by decide +kernel
theorem dX11_drawn_10 : decode cX11_drawn 10 = .ok (.iload_n 1, 1) := by decide +kernel
theorem dX11_drawn_11 : decode cX11_drawn 11 = .ok (.iconst 0, 1) := by decide +kernel
theorem dX11_drawn_12 : decode cX11_drawn 12 = .ok (.bipush 60, 2) := by decide +kernel
theorem dX11_drawn_14 : decode cX11_drawn 14 = .ok (.invokestatic 74, 3) := by decide +kernel
theorem dX11_drawn_17 : decode cX11_drawn 17 = .ok (.ifCond .eq 22, 3) := by decide +kernel
theorem dX11_drawn_20 : decode cX11_drawn 20 = .ok (.iload_n 2, 1) := by decide +kernel
theorem dX11_drawn_21 : decode cX11_drawn 21 = .ok (.iconst 1, 1) := by decide +kernel
theorem dX11_drawn_22 : decode cX11_drawn 22 = .ok (.ldc 244, 2) := by decide +kernel
theorem dX11_drawn_24 : decode cX11_drawn 24 = .ok (.invokestatic 74, 3) := by decide +kernel
theorem dX11_drawn_27 : decode cX11_drawn 27 = .ok (.ifCond .eq 12, 3) := by decide +kernel
theorem dX11_drawn_30 : decode cX11_drawn 30 = .ok (.iload_n 3, 1) := by decide +kernel
theorem dX11_drawn_31 : decode cX11_drawn 31 = .ok (.iconst 0, 1) := by decide +kernel
theorem dX11_drawn_32 : decode cX11_drawn 32 = .ok (.iconst 1, 1) := by decide +kernel
theorem dX11_drawn_33 : decode cX11_drawn 33 = .ok (.invokestatic 74, 3) := by decide +kernel
theorem dX11_drawn_36 : decode cX11_drawn 36 = .ok (.ifCond .ne 6, 3) := by decide +kernel
theorem dX11_drawn_39 : decode cX11_drawn 39 = .ok (.ldc 78, 2) := by decide +kernel
theorem dX11_drawn_41 : decode cX11_drawn 41 = .ok (.ireturn, 1) := by decide +kernel
theorem dX11_drawn_42 : decode cX11_drawn 42 = .ok (.aload_n 0, 1) := by decide +kernel
theorem dX11_drawn_43 : decode cX11_drawn 43 = .ok (.getfield 49, 3) := by decide +kernel
theorem dX11_drawn_46 : decode cX11_drawn 46 = .ok (.aload_n 0, 1) := by decide +kernel
theorem dX11_drawn_47 : decode cX11_drawn 47 = .ok (.getfield 45, 3) := by decide +kernel
theorem dX11_drawn_50 : decode cX11_drawn 50 = .ok (.invokevirtual 133, 3) := by decide +kernel
theorem dX11_drawn_53 : decode cX11_drawn 53 = .ok (.iload_n 2, 1) := by decide +kernel
theorem dX11_drawn_54 : decode cX11_drawn 54 = .ok (.i2l, 1) := by decide +kernel
theorem dX11_drawn_55 : decode cX11_drawn 55 = .ok (.lstore 4, 2) := by decide +kernel
theorem dX11_drawn_57 : decode cX11_drawn 57 = .ok (.iconst 0, 1) := by decide +kernel
theorem dX11_drawn_58 : decode cX11_drawn 58 = .ok (.istore 6, 2) := by decide +kernel
theorem dX11_drawn_60 : decode cX11_drawn 60 = .ok (.iconst 0, 1) := by decide +kernel
theorem dX11_drawn_61 : decode cX11_drawn 61 = .ok (.istore 7, 2) := by decide +kernel
theorem dX11_drawn_63 : decode cX11_drawn 63 = .ok (.iload 7, 2) := by decide +kernel
theorem dX11_drawn_65 : decode cX11_drawn 65 = .ok (.iload_n 1, 1) := by decide +kernel
theorem dX11_drawn_66 : decode cX11_drawn 66 = .ok (.if_icmp .ge 42, 3) := by decide +kernel
theorem dX11_drawn_69 : decode cX11_drawn 69 = .ok (.lload 4, 2) := by decide +kernel
theorem dX11_drawn_71 : decode cX11_drawn 71 = .ok (.ldc2_w 245, 3) := by decide +kernel
theorem dX11_drawn_74 : decode cX11_drawn 74 = .ok (.lmul, 1) := by decide +kernel
theorem dX11_drawn_75 : decode cX11_drawn 75 = .ok (.ldc2_w 247, 3) := by decide +kernel
theorem dX11_drawn_78 : decode cX11_drawn 78 = .ok (.lrem, 1) := by decide +kernel
theorem dX11_drawn_79 : decode cX11_drawn 79 = .ok (.lstore 4, 2) := by decide +kernel
theorem dX11_drawn_81 : decode cX11_drawn 81 = .ok (.aload_n 0, 1) := by decide +kernel
theorem dX11_drawn_82 : decode cX11_drawn 82 = .ok (.lload 4, 2) := by decide +kernel
theorem dX11_drawn_84 : decode cX11_drawn 84 = .ok (.invokevirtual 249, 3) := by decide +kernel
theorem dX11_drawn_87 : decode cX11_drawn 87 = .ok (.aload_n 0, 1) := by decide +kernel
theorem dX11_drawn_88 : decode cX11_drawn 88 = .ok (.getfield 49, 3) := by decide +kernel
theorem dX11_drawn_91 : decode cX11_drawn 91 = .ok (.iconst 0, 1) := by decide +kernel
theorem dX11_drawn_92 : decode cX11_drawn 92 = .ok (.invokevirtual 154, 3) := by decide +kernel
theorem dX11_drawn_95 : decode cX11_drawn 95 = .ok (.iconst (-1), 1) := by decide +kernel
theorem dX11_drawn_96 : decode cX11_drawn 96 = .ok (.if_icmp .eq 6, 3) := by decide +kernel
theorem dX11_drawn_99 : decode cX11_drawn 99 = .ok (.iinc 6 1, 3) := by decide +kernel
theorem dX11_drawn_102 : decode cX11_drawn 102 = .ok (.iinc 7 1, 3) := by decide +kernel
theorem dX11_drawn_105 : decode cX11_drawn 105 = .ok (.goto (-42), 3) := by decide +kernel
theorem dX11_drawn_108 : decode cX11_drawn 108 = .ok (.iload_n 3, 1) := by decide +kernel
theorem dX11_drawn_109 : decode cX11_drawn 109 = .ok (.ifCond .ne 13, 3) := by decide +kernel
theorem dX11_drawn_112 : decode cX11_drawn 112 = .ok (.aload_n 0, 1) := by decide +kernel
theorem dX11_drawn_113 : decode cX11_drawn 113 = .ok (.getfield 49, 3) := by decide +kernel
theorem dX11_drawn_116 : decode cX11_drawn 116 = .ok (.invokevirtual 157, 3) := by decide +kernel
theorem dX11_drawn_119 : decode cX11_drawn 119 = .ok (.goto 5, 3) := by decide +kernel
theorem dX11_drawn_122 : decode cX11_drawn 122 = .ok (.iload 6, 2) := by decide +kernel
theorem dX11_drawn_124 : decode cX11_drawn 124 = .ok (.ireturn, 1) := by decide +kernel
theorem dX11_image_0 : decode cX11_image 0 = .ok (.iload_n 1, 1) := by decide +kernel
theorem dX11_image_1 : decode cX11_image 1 = .ok (.iconst 0, 1) := by decide +kernel
theorem dX11_image_2 : decode cX11_image 2 = .ok (.iconst 1, 1) := by decide +kernel
theorem dX11_image_3 : decode cX11_image 3 = .ok (.invokestatic 74, 3) := by decide +kernel
theorem dX11_image_6 : decode cX11_image 6 = .ok (.ifCond .ne 6, 3) := by decide +kernel
theorem dX11_image_9 : decode cX11_image 9 = .ok (.ldc 78, 2) := by decide +kernel
theorem dX11_image_11 : decode cX11_image 11 = .ok (.ireturn, 1) := by decide +kernel
theorem dX11_image_12 : decode cX11_image 12 = .ok (.aload_n 0, 1) := by decide +kernel
theorem dX11_image_13 : decode cX11_image 13 = .ok (.invokevirtual 143, 3) := by decide +kernel
theorem dX11_image_16 : decode cX11_image 16 = .ok (.ifCond .ne 6, 3) := by decide +kernel
theorem dX11_image_19 : decode cX11_image 19 = .ok (.ldc 147, 2) := by decide +kernel
theorem dX11_image_21 : decode cX11_image 21 = .ok (.ireturn, 1) := by decide +kernel
theorem dX11_image_22 : decode cX11_image 22 = .ok (.aload_n 0, 1) := by decide +kernel
theorem dX11_image_23 : decode cX11_image 23 = .ok (.getfield 52, 3) := by decide +kernel
theorem dX11_image_26 : decode cX11_image 26 = .ok (.iload_n 1, 1) := by decide +kernel
theorem dX11_image_27 : decode cX11_image 27 = .ok (.aaload, 1) := by decide +kernel
theorem dX11_image_28 : decode cX11_image 28 = .ok (.aload_n 0, 1) := by decide +kernel
theorem dX11_image_29 : decode cX11_image 29 = .ok (.getfield 45, 3) := by decide +kernel
theorem dX11_image_32 : decode cX11_image 32 = .ok (.invokevirtual 133, 3) := by decide +kernel
theorem dX11_image_35 : decode cX11_image 35 = .ok (.iconst 1, 1) := by decide +kernel
theorem dX11_image_36 : decode cX11_image 36 = .ok (.ireturn, 1) := by decide +kernel
theorem dX11_restore_0 : decode cX11_restore 0 = .ok (.iload_n 1, 1) := by decide +kernel
theorem dX11_restore_1 : decode cX11_restore 1 = .ok (.iconst 0, 1) := by decide +kernel
theorem dX11_restore_2 : decode cX11_restore 2 = .ok (.iconst 1, 1) := by decide +kernel
theorem dX11_restore_3 : decode cX11_restore 3 = .ok (.invokestatic 74, 3) := by decide +kernel
theorem dX11_restore_6 : decode cX11_restore 6 = .ok (.ifCond .ne 6, 3) := by decide +kernel
theorem dX11_restore_9 : decode cX11_restore 9 = .ok (.ldc 78, 2) := by decide +kernel
theorem dX11_restore_11 : decode cX11_restore 11 = .ok (.ireturn, 1) := by decide +kernel
theorem dX11_restore_12 : decode cX11_restore 12 = .ok (.aload_n 0, 1) := by decide +kernel
theorem dX11_restore_13 : decode cX11_restore 13 = .ok (.getfield 52, 3) := by decide +kernel
theorem dX11_restore_16 : decode cX11_restore 16 = .ok (.iload_n 1, 1) := by decide +kernel
theorem dX11_restore_17 : decode cX11_restore 17 = .ok (.aaload, 1) := by decide +kernel
theorem dX11_restore_18 : decode cX11_restore 18 = .ok (.getfield 219, 3) := by decide +kernel
theorem dX11_restore_21 : decode cX11_restore 21 = .ok (.ifCond .ne 6, 3) := by decide +kernel
theorem dX11_restore_24 : decode cX11_restore 24 = .ok (.ldc 147, 2) := by decide +kernel
theorem dX11_restore_26 : decode cX11_restore 26 = .ok (.ireturn, 1) := by decide +kernel
theorem dX11_restore_27 : decode cX11_restore 27 = .ok (.aload_n 0, 1) := by decide +kernel
theorem dX11_restore_28 : decode cX11_restore 28 = .ok (.getfield 45, 3) := by decide +kernel
theorem dX11_restore_31 : decode cX11_restore 31 = .ok (.aload_n 0, 1) := by decide +kernel
theorem dX11_restore_32 : decode cX11_restore 32 = .ok (.getfield 52, 3) := by decide +kernel
theorem dX11_restore_35 : decode cX11_restore 35 = .ok (.iload_n 1, 1) := by decide +kernel
theorem dX11_restore_36 : decode cX11_restore 36 = .ok (.aaload, 1) := by decide +kernel
theorem dX11_restore_37 : decode cX11_restore 37 = .ok (.invokevirtual 133, 3) := by decide +kernel
theorem dX11_restore_40 : decode cX11_restore 40 = .ok (.aload_n 0, 1) := by decide +kernel
theorem dX11_restore_41 : decode cX11_restore 41 = .ok (.getfield 59, 3) := by decide +kernel
theorem dX11_restore_44 : decode cX11_restore 44 = .ok (.invokevirtual 137, 3) := by decide +kernel
theorem dX11_restore_47 : decode cX11_restore 47 = .ok (.iconst 1, 1) := by decide +kernel
theorem dX11_restore_48 : decode cX11_restore 48 = .ok (.ireturn, 1) := by decide +kernel
theorem dX11_kind_0 : decode cX11_kind 0 = .ok (.aload_n 0, 1) := by decide +kernel
theorem dX11_kind_1 : decode cX11_kind 1 = .ok (.iload_n 1, 1) := by decide +kernel
theorem dX11_kind_2 : decode cX11_kind 2 = .ok (.invokevirtual 161, 3) := by decide +kernel
theorem dX11_kind_5 : decode cX11_kind 5 = .ok (.ifCond .ne 6, 3) := by decide +kernel
theorem dX11_kind_8 : decode cX11_kind 8 = .ok (.ldc 78, 2) := by decide +kernel
theorem dX11_kind_10 : decode cX11_kind 10 = .ok (.ireturn, 1) := by decide +kernel
theorem dX11_kind_11 : decode cX11_kind 11 = .ok (.aload_n 0, 1) := by decide +kernel
theorem dX11_kind_12 : decode cX11_kind 12 = .ok (.getfield 45, 3) := by decide +kernel
theorem dX11_kind_15 : decode cX11_kind 15 = .ok (.getfield 253, 3) := by decide +kernel
theorem dX11_kind_18 : decode cX11_kind 18 = .ok (.iload_n 1, 1) := by decide +kernel
theorem dX11_kind_19 : decode cX11_kind 19 = .ok (.iaload, 1) := by decide +kernel
theorem dX11_kind_20 : decode cX11_kind 20 = .ok (.ireturn, 1) := by decide +kernel
theorem dX11_as_0 : decode cX11_as 0 = .ok (.aload_n 0, 1) := by decide +kernel
theorem dX11_as_1 : decode cX11_as 1 = .ok (.iload_n 1, 1) := by decide +kernel
theorem dX11_as_2 : decode cX11_as 2 = .ok (.invokevirtual 161, 3) := by decide +kernel
theorem dX11_as_5 : decode cX11_as 5 = .ok (.ifCond .eq 12, 3) := by decide +kernel
theorem dX11_as_8 : decode cX11_as 8 = .ok (.iload_n 2, 1) := by decide +kernel
theorem dX11_as_9 : decode cX11_as 9 = .ok (.iconst 0, 1) := by decide +kernel
theorem dX11_as_10 : decode cX11_as 10 = .ok (.iconst 5, 1) := by decide +kernel
theorem dX11_as_11 : decode cX11_as 11 = .ok (.invokestatic 74, 3) := by decide +kernel
theorem dX11_as_14 : decode cX11_as 14 = .ok (.ifCond .ne 6, 3) := by decide +kernel
theorem dX11_as_17 : decode cX11_as 17 = .ok (.ldc 78, 2) := by decide +kernel
theorem dX11_as_19 : decode cX11_as 19 = .ok (.ireturn, 1) := by decide +kernel
theorem dX11_as_20 : decode cX11_as 20 = .ok (.aload_n 0, 1) := by decide +kernel
theorem dX11_as_21 : decode cX11_as 21 = .ok (.getfield 45, 3) := by decide +kernel
theorem dX11_as_24 : decode cX11_as 24 = .ok (.iload_n 1, 1) := by decide +kernel
theorem dX11_as_25 : decode cX11_as 25 = .ok (.invokevirtual 256, 3) := by decide +kernel
theorem dX11_as_28 : decode cX11_as 28 = .ok (.iload_n 2, 1) := by decide +kernel
theorem dX11_as_29 : decode cX11_as 29 = .ok (.invokestatic 260, 3) := by decide +kernel
theorem dX11_as_32 : decode cX11_as 32 = .ok (.ifCond .ne 9, 3) := by decide +kernel
theorem dX11_as_35 : decode cX11_as 35 = .ok (.aload_n 0, 1) := by decide +kernel
theorem dX11_as_36 : decode cX11_as 36 = .ok (.iconst 3, 1) := by decide +kernel
theorem dX11_as_37 : decode cX11_as 37 = .ok (.invokevirtual 79, 3) := by decide +kernel
theorem dX11_as_40 : decode cX11_as 40 = .ok (.ireturn, 1) := by decide +kernel
theorem dX11_as_41 : decode cX11_as 41 = .ok (.aload_n 0, 1) := by decide +kernel
theorem dX11_as_42 : decode cX11_as 42 = .ok (.iload_n 1, 1) := by decide +kernel
theorem dX11_as_43 : decode cX11_as 43 = .ok (.invokevirtual 87, 3) := by decide +kernel
theorem dX11_as_46 : decode cX11_as 46 = .ok (.ireturn, 1) := by decide +kernel
theorem dX11_ask_0 : decode cX11_ask 0 = .ok (.aload_n 0, 1) := by decide +kernel
theorem dX11_ask_1 : decode cX11_ask 1 = .ok (.iload_n 1, 1) := by decide +kernel
theorem dX11_ask_2 : decode cX11_ask 2 = .ok (.invokevirtual 161, 3) := by decide +kernel
theorem dX11_ask_5 : decode cX11_ask 5 = .ok (.ifCond .eq 12, 3) := by decide +kernel
theorem dX11_ask_8 : decode cX11_ask 8 = .ok (.iload_n 2, 1) := by decide +kernel
theorem dX11_ask_9 : decode cX11_ask 9 = .ok (.iconst 0, 1) := by decide +kernel
theorem dX11_ask_10 : decode cX11_ask 10 = .ok (.iconst 1, 1) := by decide +kernel
theorem dX11_ask_11 : decode cX11_ask 11 = .ok (.invokestatic 74, 3) := by decide +kernel
theorem dX11_ask_14 : decode cX11_ask 14 = .ok (.ifCond .ne 6, 3) := by decide +kernel
theorem dX11_ask_17 : decode cX11_ask 17 = .ok (.ldc 78, 2) := by decide +kernel
theorem dX11_ask_19 : decode cX11_ask 19 = .ok (.ireturn, 1) := by decide +kernel
theorem dX11_ask_20 : decode cX11_ask 20 = .ok (.aload_n 0, 1) := by decide +kernel
theorem dX11_ask_21 : decode cX11_ask 21 = .ok (.getfield 66, 3) := by decide +kernel
theorem dX11_ask_24 : decode cX11_ask 24 = .ok (.iload_n 1, 1) := by decide +kernel
theorem dX11_ask_25 : decode cX11_ask 25 = .ok (.aload_n 0, 1) := by decide +kernel
theorem dX11_ask_26 : decode cX11_ask 26 = .ok (.getfield 45, 3) := by decide +kernel
theorem dX11_ask_29 : decode cX11_ask 29 = .ok (.getfield 175, 3) := by decide +kernel
theorem dX11_ask_32 : decode cX11_ask 32 = .ok (.iload_n 1, 1) := by decide +kernel
theorem dX11_ask_33 : decode cX11_ask 33 = .ok (.iaload, 1) := by decide +kernel
theorem dX11_ask_34 : decode cX11_ask 34 = .ok (.aload_n 0, 1) := by decide +kernel
theorem dX11_ask_35 : decode cX11_ask 35 = .ok (.getfield 45, 3) := by decide +kernel
theorem dX11_ask_38 : decode cX11_ask 38 = .ok (.getfield 187, 3) := by decide +kernel
theorem dX11_ask_41 : decode cX11_ask 41 = .ok (.iload_n 1, 1) := by decide +kernel
theorem dX11_ask_42 : decode cX11_ask 42 = .ok (.iaload, 1) := by decide +kernel
theorem dX11_ask_43 : decode cX11_ask 43 = .ok (.invokevirtual 264, 3) := by decide +kernel
theorem dX11_ask_46 : decode cX11_ask 46 = .ok (.aload_n 0, 1) := by decide +kernel
theorem dX11_ask_47 : decode cX11_ask 47 = .ok (.getfield 45, 3) := by decide +kernel
theorem dX11_ask_50 : decode cX11_ask 50 = .ok (.iload_n 1, 1) := by decide +kernel
theorem dX11_ask_51 : decode cX11_ask 51 = .ok (.invokevirtual 256, 3) := by decide +kernel
theorem dX11_ask_54 : decode cX11_ask 54 = .ok (.astore_n 3, 1) := by decide +kernel
theorem dX11_ask_55 : decode cX11_ask 55 = .ok (.iload_n 2, 1) := by decide +kernel
theorem dX11_ask_56 : decode cX11_ask 56 = .ok (.ifCond .ne 14, 3) := by decide +kernel
theorem dX11_ask_59 : decode cX11_ask 59 = .ok (.aload_n 3, 1) := by decide +kernel
theorem dX11_ask_60 : decode cX11_ask 60 = .ok (.aload_n 0, 1) := by decide +kernel
theorem dX11_ask_61 : decode cX11_ask 61 = .ok (.getfield 66, 3) := by decide +kernel
theorem dX11_ask_64 : decode cX11_ask 64 = .ok (.invokevirtual 267, 3) := by decide +kernel
theorem dX11_ask_67 : decode cX11_ask 67 = .ok (.goto 11, 3) := by decide +kernel
theorem dX11_ask_70 : decode cX11_ask 70 = .ok (.aload_n 3, 1) := by decide +kernel
theorem dX11_ask_71 : decode cX11_ask 71 = .ok (.aload_n 0, 1) := by decide +kernel
theorem dX11_ask_72 : decode cX11_ask 72 = .ok (.getfield 66, 3) := by decide +kernel
theorem dX11_ask_75 : decode cX11_ask 75 = .ok (.invokevirtual 271, 3) := by decide +kernel
theorem dX11_ask_78 : decode cX11_ask 78 = .ok (.ireturn, 1) := by decide +kernel
theorem dX11_trace_0 : decode cX11_trace 0 = .ok (.aload_n 0, 1) := by decide +kernel
theorem dX11_trace_1 : decode cX11_trace 1 = .ok (.getfield 66, 3) := by decide +kernel
theorem dX11_trace_4 : decode cX11_trace 4 = .ok (.iload_n 1, 1) := by decide +kernel
theorem dX11_trace_5 : decode cX11_trace 5 = .ok (.invokevirtual 274, 3) := by decide +kernel
theorem dX11_trace_8 : decode cX11_trace 8 = .ok (.ireturn, 1) := by decide +kernel
theorem dX11_count_0 : decode cX11_count 0 = .ok (.iload_n 1, 1) := by decide +kernel
theorem dX11_count_1 : decode cX11_count 1 = .ok (.tableswitch 111 0 7 #[47, 55, 63, 71, 79, 87, 95, 103], 47) := by decide +kernel
theorem dX11_count_48 : decode cX11_count 48 = .ok (.aload_n 0, 1) := by decide +kernel
theorem dX11_count_49 : decode cX11_count 49 = .ok (.getfield 27, 3) := by decide +kernel
theorem dX11_count_52 : decode cX11_count 52 = .ok (.invokevirtual 277, 3) := by decide +kernel
theorem dX11_count_55 : decode cX11_count 55 = .ok (.ireturn, 1) := by decide +kernel
theorem dX11_count_56 : decode cX11_count 56 = .ok (.aload_n 0, 1) := by decide +kernel
theorem dX11_count_57 : decode cX11_count 57 = .ok (.getfield 45, 3) := by decide +kernel
theorem dX11_count_60 : decode cX11_count 60 = .ok (.getfield 219, 3) := by decide +kernel
theorem dX11_count_63 : decode cX11_count 63 = .ok (.ireturn, 1) := by decide +kernel
theorem dX11_count_64 : decode cX11_count 64 = .ok (.aload_n 0, 1) := by decide +kernel
theorem dX11_count_65 : decode cX11_count 65 = .ok (.getfield 45, 3) := by decide +kernel
theorem dX11_count_68 : decode cX11_count 68 = .ok (.getfield 140, 3) := by decide +kernel
theorem dX11_count_71 : decode cX11_count 71 = .ok (.ireturn, 1) := by decide +kernel
theorem dX11_count_72 : decode cX11_count 72 = .ok (.aload_n 0, 1) := by decide +kernel
theorem dX11_count_73 : decode cX11_count 73 = .ok (.getfield 45, 3) := by decide +kernel
theorem dX11_count_76 : decode cX11_count 76 = .ok (.getfield 148, 3) := by decide +kernel
theorem dX11_count_79 : decode cX11_count 79 = .ok (.ireturn, 1) := by decide +kernel
theorem dX11_count_80 : decode cX11_count 80 = .ok (.aload_n 0, 1) := by decide +kernel
theorem dX11_count_81 : decode cX11_count 81 = .ok (.getfield 45, 3) := by decide +kernel
theorem dX11_count_84 : decode cX11_count 84 = .ok (.getfield 280, 3) := by decide +kernel
theorem dX11_count_87 : decode cX11_count 87 = .ok (.ireturn, 1) := by decide +kernel
theorem dX11_count_88 : decode cX11_count 88 = .ok (.aload_n 0, 1) := by decide +kernel
theorem dX11_count_89 : decode cX11_count 89 = .ok (.getfield 45, 3) := by decide +kernel
theorem dX11_count_92 : decode cX11_count 92 = .ok (.invokevirtual 157, 3) := by decide +kernel
theorem dX11_count_95 : decode cX11_count 95 = .ok (.ireturn, 1) := by decide +kernel
theorem dX11_count_96 : decode cX11_count 96 = .ok (.aload_n 0, 1) := by decide +kernel
theorem dX11_count_97 : decode cX11_count 97 = .ok (.getfield 59, 3) := by decide +kernel
theorem dX11_count_100 : decode cX11_count 100 = .ok (.getfield 181, 3) := by decide +kernel
theorem dX11_count_103 : decode cX11_count 103 = .ok (.ireturn, 1) := by decide +kernel
theorem dX11_count_104 : decode cX11_count 104 = .ok (.aload_n 0, 1) := by decide +kernel
theorem dX11_count_105 : decode cX11_count 105 = .ok (.getfield 36, 3) := by decide +kernel
theorem dX11_count_108 : decode cX11_count 108 = .ok (.getfield 111, 3) := by decide +kernel
theorem dX11_count_111 : decode cX11_count 111 = .ok (.ireturn, 1) := by decide +kernel
theorem dX11_count_112 : decode cX11_count 112 = .ok (.ldc 78, 2) := by decide +kernel
theorem dX11_count_114 : decode cX11_count 114 = .ok (.ireturn, 1) := by decide +kernel
theorem dX11_status_0 : decode cX11_status 0 = .ok (.aload_n 0, 1) := by decide +kernel
theorem dX11_status_1 : decode cX11_status 1 = .ok (.getfield 283, 3) := by decide +kernel
theorem dX11_status_4 : decode cX11_status 4 = .ok (.ireturn, 1) := by decide +kernel
theorem dX11_isWithin_0 : decode cX11_isWithin 0 = .ok (.iload_n 0, 1) := by decide +kernel
theorem dX11_isWithin_1 : decode cX11_isWithin 1 = .ok (.iload_n 1, 1) := by decide +kernel
theorem dX11_isWithin_2 : decode cX11_isWithin 2 = .ok (.if_icmp .lt 12, 3) := by decide +kernel
theorem dX11_isWithin_5 : decode cX11_isWithin 5 = .ok (.iload_n 0, 1) := by decide +kernel
theorem dX11_isWithin_6 : decode cX11_isWithin 6 = .ok (.iload_n 2, 1) := by decide +kernel
theorem dX11_isWithin_7 : decode cX11_isWithin 7 = .ok (.if_icmp .gt 7, 3) := by decide +kernel
theorem dX11_isWithin_10 : decode cX11_isWithin 10 = .ok (.iconst 1, 1) := by decide +kernel
theorem dX11_isWithin_11 : decode cX11_isWithin 11 = .ok (.goto 4, 3) := by decide +kernel
theorem dX11_isWithin_14 : decode cX11_isWithin 14 = .ok (.iconst 0, 1) := by decide +kernel
theorem dX11_isWithin_15 : decode cX11_isWithin 15 = .ok (.ireturn, 1) := by decide +kernel
theorem dX11_isIn_0 : decode cX11_isIn 0 = .ok (.iload_n 0, 1) := by decide +kernel
theorem dX11_isIn_1 : decode cX11_isIn 1 = .ok (.iload_n 1, 1) := by decide +kernel
theorem dX11_isIn_2 : decode cX11_isIn 2 = .ok (.ishr, 1) := by decide +kernel
theorem dX11_isIn_3 : decode cX11_isIn 3 = .ok (.iconst 1, 1) := by decide +kernel
theorem dX11_isIn_4 : decode cX11_isIn 4 = .ok (.iand, 1) := by decide +kernel
theorem dX11_isIn_5 : decode cX11_isIn 5 = .ok (.iconst 1, 1) := by decide +kernel
theorem dX11_isIn_6 : decode cX11_isIn 6 = .ok (.if_icmp .ne 7, 3) := by decide +kernel
theorem dX11_isIn_9 : decode cX11_isIn 9 = .ok (.iconst 1, 1) := by decide +kernel
theorem dX11_isIn_10 : decode cX11_isIn 10 = .ok (.goto 4, 3) := by decide +kernel
theorem dX11_isIn_13 : decode cX11_isIn 13 = .ok (.iconst 0, 1) := by decide +kernel
theorem dX11_isIn_14 : decode cX11_isIn 14 = .ok (.ireturn, 1) := by decide +kernel
theorem dX11_isRow_0 : decode cX11_isRow 0 = .ok (.iload_n 0, 1) := by decide +kernel
theorem dX11_isRow_1 : decode cX11_isRow 1 = .ok (.iconst 0, 1) := by decide +kernel
theorem dX11_isRow_2 : decode cX11_isRow 2 = .ok (.bipush 7, 2) := by decide +kernel
theorem dX11_isRow_4 : decode cX11_isRow 4 = .ok (.invokestatic 74, 3) := by decide +kernel
theorem dX11_isRow_7 : decode cX11_isRow 7 = .ok (.ireturn, 1) := by decide +kernel
theorem dX11_hasLine_0 : decode cX11_hasLine 0 = .ok (.aload_n 0, 1) := by decide +kernel
theorem dX11_hasLine_1 : decode cX11_hasLine 1 = .ok (.getfield 45, 3) := by decide +kernel
theorem dX11_hasLine_4 : decode cX11_hasLine 4 = .ok (.getfield 219, 3) := by decide +kernel
theorem dX11_hasLine_7 : decode cX11_hasLine 7 = .ok (.ifCond .le 7, 3) := by decide +kernel
theorem dX11_hasLine_10 : decode cX11_hasLine 10 = .ok (.iconst 1, 1) := by decide +kernel
theorem dX11_hasLine_11 : decode cX11_hasLine 11 = .ok (.goto 4, 3) := by decide +kernel
theorem dX11_hasLine_14 : decode cX11_hasLine 14 = .ok (.iconst 0, 1) := by decide +kernel
theorem dX11_hasLine_15 : decode cX11_hasLine 15 = .ok (.ireturn, 1) := by decide +kernel
theorem dX11_isPerson_0 : decode cX11_isPerson 0 = .ok (.iload_n 1, 1) := by decide +kernel
theorem dX11_isPerson_1 : decode cX11_isPerson 1 = .ok (.iconst 0, 1) := by decide +kernel
theorem dX11_isPerson_2 : decode cX11_isPerson 2 = .ok (.aload_n 0, 1) := by decide +kernel
theorem dX11_isPerson_3 : decode cX11_isPerson 3 = .ok (.getfield 45, 3) := by decide +kernel
theorem dX11_isPerson_6 : decode cX11_isPerson 6 = .ok (.getfield 140, 3) := by decide +kernel
theorem dX11_isPerson_9 : decode cX11_isPerson 9 = .ok (.iconst 1, 1) := by decide +kernel
theorem dX11_isPerson_10 : decode cX11_isPerson 10 = .ok (.isub, 1) := by decide +kernel
theorem dX11_isPerson_11 : decode cX11_isPerson 11 = .ok (.invokestatic 74, 3) := by decide +kernel
theorem dX11_isPerson_14 : decode cX11_isPerson 14 = .ok (.ireturn, 1) := by decide +kernel
theorem dX11_isStop_0 : decode cX11_isStop 0 = .ok (.iload_n 1, 1) := by decide +kernel
theorem dX11_isStop_1 : decode cX11_isStop 1 = .ok (.iconst 0, 1) := by decide +kernel
theorem dX11_isStop_2 : decode cX11_isStop 2 = .ok (.aload_n 0, 1) := by decide +kernel
theorem dX11_isStop_3 : decode cX11_isStop 3 = .ok (.getfield 45, 3) := by decide +kernel
theorem dX11_isStop_6 : decode cX11_isStop 6 = .ok (.getfield 219, 3) := by decide +kernel
theorem dX11_isStop_9 : decode cX11_isStop 9 = .ok (.iconst 1, 1) := by decide +kernel
theorem dX11_isStop_10 : decode cX11_isStop 10 = .ok (.isub, 1) := by decide +kernel
theorem dX11_isStop_11 : decode cX11_isStop 11 = .ok (.invokestatic 74, 3) := by decide +kernel
theorem dX11_isStop_14 : decode cX11_isStop 14 = .ok (.ireturn, 1) := by decide +kernel
theorem dX11_found_0 : decode cX11_found 0 = .ok (.aload_n 0, 1) := by decide +kernel
theorem dX11_found_1 : decode cX11_found 1 = .ok (.iload_n 1, 1) := by decide +kernel
theorem dX11_found_2 : decode cX11_found 2 = .ok (.putfield 283, 3) := by decide +kernel
theorem dX11_found_5 : decode cX11_found 5 = .ok (.ldc_w 286, 3) := by decide +kernel
theorem dX11_found_8 : decode cX11_found 8 = .ok (.iload_n 1, 1) := by decide +kernel
theorem dX11_found_9 : decode cX11_found 9 = .ok (.isub, 1) := by decide +kernel
theorem dX11_found_10 : decode cX11_found 10 = .ok (.ireturn, 1) := by decide +kernel
theorem dX11_foundNothing_0 : decode cX11_foundNothing 0 = .ok (.aload_n 0, 1) := by decide +kernel
theorem dX11_foundNothing_1 : decode cX11_foundNothing 1 = .ok (.iconst 0, 1) := by decide +kernel
theorem dX11_foundNothing_2 : decode cX11_foundNothing 2 = .ok (.putfield 283, 3) := by decide +kernel
theorem dX11_foundNothing_5 : decode cX11_foundNothing 5 = .ok (.iload_n 1, 1) := by decide +kernel
theorem dX11_foundNothing_6 : decode cX11_foundNothing 6 = .ok (.ireturn, 1) := by decide +kernel
theorem dX11_isOne_0 : decode cX11_isOne 0 = .ok (.iload_n 1, 1) := by decide +kernel
theorem dX11_isOne_1 : decode cX11_isOne 1 = .ok (.tableswitch 66 0 5 #[39, 41, 46, 51, 56, 61], 39) := by decide +kernel
theorem dX11_isOne_40 : decode cX11_isOne 40 = .ok (.iconst 1, 1) := by decide +kernel
theorem dX11_isOne_41 : decode cX11_isOne 41 = .ok (.ireturn, 1) := by decide +kernel
theorem dX11_isOne_42 : decode cX11_isOne 42 = .ok (.aload_n 0, 1) := by decide +kernel
theorem dX11_isOne_43 : decode cX11_isOne 43 = .ok (.instanceof 9, 3) := by decide +kernel
theorem dX11_isOne_46 : decode cX11_isOne 46 = .ok (.ireturn, 1) := by decide +kernel
theorem dX11_isOne_47 : decode cX11_isOne 47 = .ok (.aload_n 0, 1) := by decide +kernel
theorem dX11_isOne_48 : decode cX11_isOne 48 = .ok (.instanceof 12, 3) := by decide +kernel
theorem dX11_isOne_51 : decode cX11_isOne 51 = .ok (.ireturn, 1) := by decide +kernel
theorem dX11_isOne_52 : decode cX11_isOne 52 = .ok (.aload_n 0, 1) := by decide +kernel
theorem dX11_isOne_53 : decode cX11_isOne 53 = .ok (.instanceof 15, 3) := by decide +kernel
theorem dX11_isOne_56 : decode cX11_isOne 56 = .ok (.ireturn, 1) := by decide +kernel
theorem dX11_isOne_57 : decode cX11_isOne 57 = .ok (.aload_n 0, 1) := by decide +kernel
theorem dX11_isOne_58 : decode cX11_isOne 58 = .ok (.instanceof 18, 3) := by decide +kernel
theorem dX11_isOne_61 : decode cX11_isOne 61 = .ok (.ireturn, 1) := by decide +kernel
theorem dX11_isOne_62 : decode cX11_isOne 62 = .ok (.aload_n 0, 1) := by decide +kernel
theorem dX11_isOne_63 : decode cX11_isOne 63 = .ok (.instanceof 21, 3) := by decide +kernel
theorem dX11_isOne_66 : decode cX11_isOne 66 = .ok (.ireturn, 1) := by decide +kernel
theorem dX11_isOne_67 : decode cX11_isOne 67 = .ok (.iconst 0, 1) := by decide +kernel
theorem dX11_isOne_68 : decode cX11_isOne 68 = .ok (.ireturn, 1) := by decide +kernel
theorem dX11_playFor_0 : decode cX11_playFor 0 = .ok (.aload_n 0, 1) := by decide +kernel
theorem dX11_playFor_1 : decode cX11_playFor 1 = .ok (.getfield 49, 3) := by decide +kernel
theorem dX11_playFor_4 : decode cX11_playFor 4 = .ok (.aload_n 0, 1) := by decide +kernel
theorem dX11_playFor_5 : decode cX11_playFor 5 = .ok (.getfield 45, 3) := by decide +kernel
theorem dX11_playFor_8 : decode cX11_playFor 8 = .ok (.invokevirtual 133, 3) := by decide +kernel
theorem dX11_playFor_11 : decode cX11_playFor 11 = .ok (.iconst 0, 1) := by decide +kernel
theorem dX11_playFor_12 : decode cX11_playFor 12 = .ok (.istore_n 2, 1) := by decide +kernel
theorem dX11_playFor_13 : decode cX11_playFor 13 = .ok (.iload_n 2, 1) := by decide +kernel
theorem dX11_playFor_14 : decode cX11_playFor 14 = .ok (.iload_n 1, 1) := by decide +kernel
theorem dX11_playFor_15 : decode cX11_playFor 15 = .ok (.if_icmp .ge 18, 3) := by decide +kernel
theorem dX11_playFor_18 : decode cX11_playFor 18 = .ok (.aload_n 0, 1) := by decide +kernel
theorem dX11_playFor_19 : decode cX11_playFor 19 = .ok (.getfield 49, 3) := by decide +kernel
theorem dX11_playFor_22 : decode cX11_playFor 22 = .ok (.iconst 0, 1) := by decide +kernel
theorem dX11_playFor_23 : decode cX11_playFor 23 = .ok (.invokevirtual 154, 3) := by decide +kernel
theorem dX11_playFor_26 : decode cX11_playFor 26 = .ok (.pop, 1) := by decide +kernel
theorem dX11_playFor_27 : decode cX11_playFor 27 = .ok (.iinc 2 1, 3) := by decide +kernel
theorem dX11_playFor_30 : decode cX11_playFor 30 = .ok (.goto (-17), 3) := by decide +kernel
theorem dX11_playFor_33 : decode cX11_playFor 33 = .ok (.return_, 1) := by decide +kernel
theorem dX11_playTill_0 : decode cX11_playTill 0 = .ok (.iconst 0, 1) := by decide +kernel
theorem dX11_playTill_1 : decode cX11_playTill 1 = .ok (.istore 4, 2) := by decide +kernel
theorem dX11_playTill_3 : decode cX11_playTill 3 = .ok (.iload 4, 2) := by decide +kernel
theorem dX11_playTill_5 : decode cX11_playTill 5 = .ok (.iload_n 3, 1) := by decide +kernel
theorem dX11_playTill_6 : decode cX11_playTill 6 = .ok (.if_icmp .ge 34, 3) := by decide +kernel
theorem dX11_playTill_9 : decode cX11_playTill 9 = .ok (.aload_n 0, 1) := by decide +kernel
theorem dX11_playTill_10 : decode cX11_playTill 10 = .ok (.getfield 49, 3) := by decide +kernel
theorem dX11_playTill_13 : decode cX11_playTill 13 = .ok (.invokevirtual 157, 3) := by decide +kernel
theorem dX11_playTill_16 : decode cX11_playTill 16 = .ok (.iload_n 1, 1) := by decide +kernel
theorem dX11_playTill_17 : decode cX11_playTill 17 = .ok (.iand, 1) := by decide +kernel
theorem dX11_playTill_18 : decode cX11_playTill 18 = .ok (.iload_n 1, 1) := by decide +kernel
theorem dX11_playTill_19 : decode cX11_playTill 19 = .ok (.if_icmp .ne 6, 3) := by decide +kernel
theorem dX11_playTill_22 : decode cX11_playTill 22 = .ok (.iload 4, 2) := by decide +kernel
theorem dX11_playTill_24 : decode cX11_playTill 24 = .ok (.ireturn, 1) := by decide +kernel
theorem dX11_playTill_25 : decode cX11_playTill 25 = .ok (.aload_n 0, 1) := by decide +kernel
theorem dX11_playTill_26 : decode cX11_playTill 26 = .ok (.getfield 49, 3) := by decide +kernel
theorem dX11_playTill_29 : decode cX11_playTill 29 = .ok (.iload_n 2, 1) := by decide +kernel
theorem dX11_playTill_30 : decode cX11_playTill 30 = .ok (.invokevirtual 154, 3) := by decide +kernel
theorem dX11_playTill_33 : decode cX11_playTill 33 = .ok (.pop, 1) := by decide +kernel
theorem dX11_playTill_34 : decode cX11_playTill 34 = .ok (.iinc 4 1, 3) := by decide +kernel
theorem dX11_playTill_37 : decode cX11_playTill 37 = .ok (.goto (-34), 3) := by decide +kernel
theorem dX11_playTill_40 : decode cX11_playTill 40 = .ok (.aload_n 0, 1) := by decide +kernel
theorem dX11_playTill_41 : decode cX11_playTill 41 = .ok (.getfield 49, 3) := by decide +kernel
theorem dX11_playTill_44 : decode cX11_playTill 44 = .ok (.invokevirtual 157, 3) := by decide +kernel
theorem dX11_playTill_47 : decode cX11_playTill 47 = .ok (.iload_n 1, 1) := by decide +kernel
theorem dX11_playTill_48 : decode cX11_playTill 48 = .ok (.iand, 1) := by decide +kernel
theorem dX11_playTill_49 : decode cX11_playTill 49 = .ok (.iload_n 1, 1) := by decide +kernel
theorem dX11_playTill_50 : decode cX11_playTill 50 = .ok (.if_icmp .ne 7, 3) := by decide +kernel
theorem dX11_playTill_53 : decode cX11_playTill 53 = .ok (.iload_n 3, 1) := by decide +kernel
theorem dX11_playTill_54 : decode cX11_playTill 54 = .ok (.goto 5, 3) := by decide +kernel
theorem dX11_playTill_57 : decode cX11_playTill 57 = .ok (.ldc 205, 2) := by decide +kernel
theorem dX11_playTill_59 : decode cX11_playTill 59 = .ok (.ireturn, 1) := by decide +kernel
theorem dX11_callerBy_0 : decode cX11_callerBy 0 = .ok (.iconst 0, 1) := by decide +kernel
theorem dX11_callerBy_1 : decode cX11_callerBy 1 = .ok (.istore_n 3, 1) := by decide +kernel
theorem dX11_callerBy_2 : decode cX11_callerBy 2 = .ok (.iload_n 3, 1) := by decide +kernel
theorem dX11_callerBy_3 : decode cX11_callerBy 3 = .ok (.aload_n 0, 1) := by decide +kernel
theorem dX11_callerBy_4 : decode cX11_callerBy 4 = .ok (.getfield 49, 3) := by decide +kernel
theorem dX11_callerBy_7 : decode cX11_callerBy 7 = .ok (.getfield 140, 3) := by decide +kernel
theorem dX11_callerBy_10 : decode cX11_callerBy 10 = .ok (.if_icmp .ge 74, 3) := by decide +kernel
theorem dX11_callerBy_13 : decode cX11_callerBy 13 = .ok (.aload_n 0, 1) := by decide +kernel
theorem dX11_callerBy_14 : decode cX11_callerBy 14 = .ok (.getfield 49, 3) := by decide +kernel
theorem dX11_callerBy_17 : decode cX11_callerBy 17 = .ok (.getfield 164, 3) := by decide +kernel
theorem dX11_callerBy_20 : decode cX11_callerBy 20 = .ok (.iload_n 3, 1) := by decide +kernel
theorem dX11_callerBy_21 : decode cX11_callerBy 21 = .ok (.iaload, 1) := by decide +kernel
theorem dX11_callerBy_22 : decode cX11_callerBy 22 = .ok (.iload_n 1, 1) := by decide +kernel
theorem dX11_callerBy_23 : decode cX11_callerBy 23 = .ok (.if_icmp .ne 55, 3) := by decide +kernel
theorem dX11_callerBy_26 : decode cX11_callerBy 26 = .ok (.aload_n 0, 1) := by decide +kernel
theorem dX11_callerBy_27 : decode cX11_callerBy 27 = .ok (.getfield 49, 3) := by decide +kernel
theorem dX11_callerBy_30 : decode cX11_callerBy 30 = .ok (.getfield 175, 3) := by decide +kernel
theorem dX11_callerBy_33 : decode cX11_callerBy 33 = .ok (.iload_n 3, 1) := by decide +kernel
theorem dX11_callerBy_34 : decode cX11_callerBy 34 = .ok (.dup2, 1) := by decide +kernel
theorem dX11_callerBy_35 : decode cX11_callerBy 35 = .ok (.iaload, 1) := by decide +kernel
theorem dX11_callerBy_36 : decode cX11_callerBy 36 = .ok (.iload_n 2, 1) := by decide +kernel
theorem dX11_callerBy_37 : decode cX11_callerBy 37 = .ok (.iadd, 1) := by decide +kernel
theorem dX11_callerBy_38 : decode cX11_callerBy 38 = .ok (.iastore, 1) := by decide +kernel
theorem dX11_callerBy_39 : decode cX11_callerBy 39 = .ok (.aload_n 0, 1) := by decide +kernel
theorem dX11_callerBy_40 : decode cX11_callerBy 40 = .ok (.getfield 49, 3) := by decide +kernel
theorem dX11_callerBy_43 : decode cX11_callerBy 43 = .ok (.iconst 0, 1) := by decide +kernel
theorem dX11_callerBy_44 : decode cX11_callerBy 44 = .ok (.invokevirtual 202, 3) := by decide +kernel
theorem dX11_callerBy_47 : decode cX11_callerBy 47 = .ok (.iload_n 1, 1) := by decide +kernel
theorem dX11_callerBy_48 : decode cX11_callerBy 48 = .ok (.if_icmp .ne 7, 3) := by decide +kernel
theorem dX11_callerBy_51 : decode cX11_callerBy 51 = .ok (.iconst 1, 1) := by decide +kernel
theorem dX11_callerBy_52 : decode cX11_callerBy 52 = .ok (.goto 4, 3) := by decide +kernel
theorem dX11_callerBy_55 : decode cX11_callerBy 55 = .ok (.iconst 0, 1) := by decide +kernel
theorem dX11_callerBy_56 : decode cX11_callerBy 56 = .ok (.istore 4, 2) := by decide +kernel
theorem dX11_callerBy_58 : decode cX11_callerBy 58 = .ok (.aload_n 0, 1) := by decide +kernel
theorem dX11_callerBy_59 : decode cX11_callerBy 59 = .ok (.getfield 49, 3) := by decide +kernel
theorem dX11_callerBy_62 : decode cX11_callerBy 62 = .ok (.getfield 175, 3) := by decide +kernel
theorem dX11_callerBy_65 : decode cX11_callerBy 65 = .ok (.iload_n 3, 1) := by decide +kernel
theorem dX11_callerBy_66 : decode cX11_callerBy 66 = .ok (.dup2, 1) := by decide +kernel
theorem dX11_callerBy_67 : decode cX11_callerBy 67 = .ok (.iaload, 1) := by decide +kernel
theorem dX11_callerBy_68 : decode cX11_callerBy 68 = .ok (.iload_n 2, 1) := by decide +kernel
theorem dX11_callerBy_69 : decode cX11_callerBy 69 = .ok (.isub, 1) := by decide +kernel
theorem dX11_callerBy_70 : decode cX11_callerBy 70 = .ok (.iastore, 1) := by decide +kernel
theorem dX11_callerBy_71 : decode cX11_callerBy 71 = .ok (.iload 4, 2) := by decide +kernel
theorem dX11_callerBy_73 : decode cX11_callerBy 73 = .ok (.ifCond .eq 5, 3) := by decide +kernel
theorem dX11_callerBy_76 : decode cX11_callerBy 76 = .ok (.iload_n 3, 1) := by decide +kernel
theorem dX11_callerBy_77 : decode cX11_callerBy 77 = .ok (.ireturn, 1) := by decide +kernel
theorem dX11_callerBy_78 : decode cX11_callerBy 78 = .ok (.iinc 3 1, 3) := by decide +kernel
theorem dX11_callerBy_81 : decode cX11_callerBy 81 = .ok (.goto (-79), 3) := by decide +kernel
theorem dX11_callerBy_84 : decode cX11_callerBy 84 = .ok (.ldc 205, 2) := by decide +kernel
theorem dX11_callerBy_86 : decode cX11_callerBy 86 = .ok (.ireturn, 1) := by decide +kernel
theorem dX11_soonFrom_0 : decode cX11_soonFrom 0 = .ok (.aload_n 0, 1) := by decide +kernel
theorem dX11_soonFrom_1 : decode cX11_soonFrom 1 = .ok (.getfield 49, 3) := by decide +kernel
theorem dX11_soonFrom_4 : decode cX11_soonFrom 4 = .ok (.aload_n 0, 1) := by decide +kernel
theorem dX11_soonFrom_5 : decode cX11_soonFrom 5 = .ok (.getfield 45, 3) := by decide +kernel
theorem dX11_soonFrom_8 : decode cX11_soonFrom 8 = .ok (.invokevirtual 133, 3) := by decide +kernel
theorem dX11_soonFrom_11 : decode cX11_soonFrom 11 = .ok (.iload_n 2, 1) := by decide +kernel
theorem dX11_soonFrom_12 : decode cX11_soonFrom 12 = .ok (.aload_n 0, 1) := by decide +kernel
theorem dX11_soonFrom_13 : decode cX11_soonFrom 13 = .ok (.getfield 45, 3) := by decide +kernel
theorem dX11_soonFrom_16 : decode cX11_soonFrom 16 = .ok (.getfield 164, 3) := by decide +kernel
theorem dX11_soonFrom_19 : decode cX11_soonFrom 19 = .ok (.iload_n 1, 1) := by decide +kernel
theorem dX11_soonFrom_20 : decode cX11_soonFrom 20 = .ok (.iaload, 1) := by decide +kernel
theorem dX11_soonFrom_21 : decode cX11_soonFrom 21 = .ok (.if_icmp .eq 12, 3) := by decide +kernel
theorem dX11_soonFrom_24 : decode cX11_soonFrom 24 = .ok (.aload_n 0, 1) := by decide +kernel
theorem dX11_soonFrom_25 : decode cX11_soonFrom 25 = .ok (.getfield 49, 3) := by decide +kernel
theorem dX11_soonFrom_28 : decode cX11_soonFrom 28 = .ok (.iload_n 1, 1) := by decide +kernel
theorem dX11_soonFrom_29 : decode cX11_soonFrom 29 = .ok (.iload_n 2, 1) := by decide +kernel
theorem dX11_soonFrom_30 : decode cX11_soonFrom 30 = .ok (.invokevirtual 171, 3) := by decide +kernel
theorem dX11_soonFrom_33 : decode cX11_soonFrom 33 = .ok (.aload_n 0, 1) := by decide +kernel
theorem dX11_soonFrom_34 : decode cX11_soonFrom 34 = .ok (.iconst 1, 1) := by decide +kernel
theorem dX11_soonFrom_35 : decode cX11_soonFrom 35 = .ok (.iload_n 1, 1) := by decide +kernel
theorem dX11_soonFrom_36 : decode cX11_soonFrom 36 = .ok (.ishl, 1) := by decide +kernel
theorem dX11_soonFrom_37 : decode cX11_soonFrom 37 = .ok (.iconst 0, 1) := by decide +kernel
theorem dX11_soonFrom_38 : decode cX11_soonFrom 38 = .ok (.bipush 60, 2) := by decide +kernel
theorem dX11_soonFrom_40 : decode cX11_soonFrom 40 = .ok (.invokevirtual 206, 3) := by decide +kernel
theorem dX11_soonFrom_43 : decode cX11_soonFrom 43 = .ok (.ireturn, 1) := by decide +kernel
theorem dX11_leastWalkers_0 : decode cX11_leastWalkers 0 = .ok (.iconst 0, 1) := by decide +kernel
theorem dX11_leastWalkers_1 : decode cX11_leastWalkers 1 = .ok (.istore_n 3, 1) := by decide +kernel
theorem dX11_leastWalkers_2 : decode cX11_leastWalkers 2 = .ok (.iload_n 3, 1) := by decide +kernel
theorem dX11_leastWalkers_3 : decode cX11_leastWalkers 3 = .ok (.aload_n 0, 1) := by decide +kernel
theorem dX11_leastWalkers_4 : decode cX11_leastWalkers 4 = .ok (.getfield 45, 3) := by decide +kernel
theorem dX11_leastWalkers_7 : decode cX11_leastWalkers 7 = .ok (.invokevirtual 209, 3) := by decide +kernel
theorem dX11_leastWalkers_10 : decode cX11_leastWalkers 10 = .ok (.if_icmp .gt 48, 3) := by decide +kernel
theorem dX11_leastWalkers_13 : decode cX11_leastWalkers 13 = .ok (.iload_n 3, 1) := by decide +kernel
theorem dX11_leastWalkers_14 : decode cX11_leastWalkers 14 = .ok (.invokestatic 287, 3) := by decide +kernel
theorem dX11_leastWalkers_17 : decode cX11_leastWalkers 17 = .ok (.iload_n 1, 1) := by decide +kernel
theorem dX11_leastWalkers_18 : decode cX11_leastWalkers 18 = .ok (.if_icmp .ne 34, 3) := by decide +kernel
theorem dX11_leastWalkers_21 : decode cX11_leastWalkers 21 = .ok (.aload_n 0, 1) := by decide +kernel
theorem dX11_leastWalkers_22 : decode cX11_leastWalkers 22 = .ok (.getfield 49, 3) := by decide +kernel
theorem dX11_leastWalkers_25 : decode cX11_leastWalkers 25 = .ok (.aload_n 0, 1) := by decide +kernel
theorem dX11_leastWalkers_26 : decode cX11_leastWalkers 26 = .ok (.getfield 45, 3) := by decide +kernel
theorem dX11_leastWalkers_29 : decode cX11_leastWalkers 29 = .ok (.invokevirtual 133, 3) := by decide +kernel
theorem dX11_leastWalkers_32 : decode cX11_leastWalkers 32 = .ok (.aload_n 0, 1) := by decide +kernel
theorem dX11_leastWalkers_33 : decode cX11_leastWalkers 33 = .ok (.aload_n 0, 1) := by decide +kernel
theorem dX11_leastWalkers_34 : decode cX11_leastWalkers 34 = .ok (.getfield 45, 3) := by decide +kernel
theorem dX11_leastWalkers_37 : decode cX11_leastWalkers 37 = .ok (.invokevirtual 209, 3) := by decide +kernel
theorem dX11_leastWalkers_40 : decode cX11_leastWalkers 40 = .ok (.iload_n 3, 1) := by decide +kernel
theorem dX11_leastWalkers_41 : decode cX11_leastWalkers 41 = .ok (.iload_n 2, 1) := by decide +kernel
theorem dX11_leastWalkers_42 : decode cX11_leastWalkers 42 = .ok (.invokevirtual 206, 3) := by decide +kernel
theorem dX11_leastWalkers_45 : decode cX11_leastWalkers 45 = .ok (.ldc 205, 2) := by decide +kernel
theorem dX11_leastWalkers_47 : decode cX11_leastWalkers 47 = .ok (.if_icmp .eq 5, 3) := by decide +kernel
theorem dX11_leastWalkers_50 : decode cX11_leastWalkers 50 = .ok (.iload_n 3, 1) := by decide +kernel
theorem dX11_leastWalkers_51 : decode cX11_leastWalkers 51 = .ok (.ireturn, 1) := by decide +kernel
theorem dX11_leastWalkers_52 : decode cX11_leastWalkers 52 = .ok (.iinc 3 1, 3) := by decide +kernel
theorem dX11_leastWalkers_55 : decode cX11_leastWalkers 55 = .ok (.goto (-53), 3) := by decide +kernel
theorem dX11_leastWalkers_58 : decode cX11_leastWalkers 58 = .ok (.ldc 205, 2) := by decide +kernel
theorem dX11_leastWalkers_60 : decode cX11_leastWalkers 60 = .ok (.ireturn, 1) := by decide +kernel
theorem dX11_faithsBy_0 : decode cX11_faithsBy 0 = .ok (.iconst 0, 1) := by decide +kernel
theorem dX11_faithsBy_1 : decode cX11_faithsBy 1 = .ok (.istore 5, 2) := by decide +kernel
theorem dX11_faithsBy_3 : decode cX11_faithsBy 3 = .ok (.iconst 0, 1) := by decide +kernel
theorem dX11_faithsBy_4 : decode cX11_faithsBy 4 = .ok (.istore 6, 2) := by decide +kernel
theorem dX11_faithsBy_6 : decode cX11_faithsBy 6 = .ok (.iload 6, 2) := by decide +kernel
theorem dX11_faithsBy_8 : decode cX11_faithsBy 8 = .ok (.bipush 20, 2) := by decide +kernel
theorem dX11_faithsBy_10 : decode cX11_faithsBy 10 = .ok (.if_icmp .gt 51, 3) := by decide +kernel
theorem dX11_faithsBy_13 : decode cX11_faithsBy 13 = .ok (.aload_n 0, 1) := by decide +kernel
theorem dX11_faithsBy_14 : decode cX11_faithsBy 14 = .ok (.getfield 49, 3) := by decide +kernel
theorem dX11_faithsBy_17 : decode cX11_faithsBy 17 = .ok (.aload_n 0, 1) := by decide +kernel
theorem dX11_faithsBy_18 : decode cX11_faithsBy 18 = .ok (.getfield 45, 3) := by decide +kernel
theorem dX11_faithsBy_21 : decode cX11_faithsBy 21 = .ok (.invokevirtual 133, 3) := by decide +kernel
theorem dX11_faithsBy_24 : decode cX11_faithsBy 24 = .ok (.aload_n 0, 1) := by decide +kernel
theorem dX11_faithsBy_25 : decode cX11_faithsBy 25 = .ok (.getfield 49, 3) := by decide +kernel
theorem dX11_faithsBy_28 : decode cX11_faithsBy 28 = .ok (.getfield 175, 3) := by decide +kernel
theorem dX11_faithsBy_31 : decode cX11_faithsBy 31 = .ok (.iload_n 1, 1) := by decide +kernel
theorem dX11_faithsBy_32 : decode cX11_faithsBy 32 = .ok (.iload 6, 2) := by decide +kernel
theorem dX11_faithsBy_34 : decode cX11_faithsBy 34 = .ok (.iastore, 1) := by decide +kernel
theorem dX11_faithsBy_35 : decode cX11_faithsBy 35 = .ok (.aload_n 0, 1) := by decide +kernel
theorem dX11_faithsBy_36 : decode cX11_faithsBy 36 = .ok (.iload_n 2, 1) := by decide +kernel
theorem dX11_faithsBy_37 : decode cX11_faithsBy 37 = .ok (.iload_n 3, 1) := by decide +kernel
theorem dX11_faithsBy_38 : decode cX11_faithsBy 38 = .ok (.iload 4, 2) := by decide +kernel
theorem dX11_faithsBy_40 : decode cX11_faithsBy 40 = .ok (.invokevirtual 292, 3) := by decide +kernel
theorem dX11_faithsBy_43 : decode cX11_faithsBy 43 = .ok (.ifCond .eq 12, 3) := by decide +kernel
theorem dX11_faithsBy_46 : decode cX11_faithsBy 46 = .ok (.iload 5, 2) := by decide +kernel
theorem dX11_faithsBy_48 : decode cX11_faithsBy 48 = .ok (.iconst 1, 1) := by decide +kernel
theorem dX11_faithsBy_49 : decode cX11_faithsBy 49 = .ok (.iload 6, 2) := by decide +kernel
theorem dX11_faithsBy_51 : decode cX11_faithsBy 51 = .ok (.ishl, 1) := by decide +kernel
theorem dX11_faithsBy_52 : decode cX11_faithsBy 52 = .ok (.ior, 1) := by decide +kernel
theorem dX11_faithsBy_53 : decode cX11_faithsBy 53 = .ok (.istore 5, 2) := by decide +kernel
theorem dX11_faithsBy_55 : decode cX11_faithsBy 55 = .ok (.iinc 6 1, 3) := by decide +kernel
theorem dX11_faithsBy_58 : decode cX11_faithsBy 58 = .ok (.goto (-52), 3) := by decide +kernel
theorem dX11_faithsBy_61 : decode cX11_faithsBy 61 = .ok (.iload 5, 2) := by decide +kernel
theorem dX11_faithsBy_63 : decode cX11_faithsBy 63 = .ok (.ireturn, 1) := by decide +kernel
theorem dX11_sortsBy_0 : decode cX11_sortsBy 0 = .ok (.iconst 0, 1) := by decide +kernel
theorem dX11_sortsBy_1 : decode cX11_sortsBy 1 = .ok (.istore 5, 2) := by decide +kernel
theorem dX11_sortsBy_3 : decode cX11_sortsBy 3 = .ok (.iconst 1, 1) := by decide +kernel
theorem dX11_sortsBy_4 : decode cX11_sortsBy 4 = .ok (.istore 6, 2) := by decide +kernel
theorem dX11_sortsBy_6 : decode cX11_sortsBy 6 = .ok (.iload 6, 2) := by decide +kernel
theorem dX11_sortsBy_8 : decode cX11_sortsBy 8 = .ok (.iconst 5, 1) := by decide +kernel
theorem dX11_sortsBy_9 : decode cX11_sortsBy 9 = .ok (.if_icmp .gt 51, 3) := by decide +kernel
theorem dX11_sortsBy_12 : decode cX11_sortsBy 12 = .ok (.aload_n 0, 1) := by decide +kernel
theorem dX11_sortsBy_13 : decode cX11_sortsBy 13 = .ok (.getfield 49, 3) := by decide +kernel
theorem dX11_sortsBy_16 : decode cX11_sortsBy 16 = .ok (.aload_n 0, 1) := by decide +kernel
theorem dX11_sortsBy_17 : decode cX11_sortsBy 17 = .ok (.getfield 45, 3) := by decide +kernel
theorem dX11_sortsBy_20 : decode cX11_sortsBy 20 = .ok (.invokevirtual 133, 3) := by decide +kernel
theorem dX11_sortsBy_23 : decode cX11_sortsBy 23 = .ok (.aload_n 0, 1) := by decide +kernel
theorem dX11_sortsBy_24 : decode cX11_sortsBy 24 = .ok (.getfield 49, 3) := by decide +kernel
theorem dX11_sortsBy_27 : decode cX11_sortsBy 27 = .ok (.getfield 253, 3) := by decide +kernel
theorem dX11_sortsBy_30 : decode cX11_sortsBy 30 = .ok (.iload_n 1, 1) := by decide +kernel
theorem dX11_sortsBy_31 : decode cX11_sortsBy 31 = .ok (.iload 6, 2) := by decide +kernel
theorem dX11_sortsBy_33 : decode cX11_sortsBy 33 = .ok (.iastore, 1) := by decide +kernel
theorem dX11_sortsBy_34 : decode cX11_sortsBy 34 = .ok (.aload_n 0, 1) := by decide +kernel
theorem dX11_sortsBy_35 : decode cX11_sortsBy 35 = .ok (.iload_n 2, 1) := by decide +kernel
theorem dX11_sortsBy_36 : decode cX11_sortsBy 36 = .ok (.iload_n 3, 1) := by decide +kernel
theorem dX11_sortsBy_37 : decode cX11_sortsBy 37 = .ok (.iload 4, 2) := by decide +kernel
theorem dX11_sortsBy_39 : decode cX11_sortsBy 39 = .ok (.invokevirtual 292, 3) := by decide +kernel
theorem dX11_sortsBy_42 : decode cX11_sortsBy 42 = .ok (.ifCond .eq 12, 3) := by decide +kernel
theorem dX11_sortsBy_45 : decode cX11_sortsBy 45 = .ok (.iload 5, 2) := by decide +kernel
theorem dX11_sortsBy_47 : decode cX11_sortsBy 47 = .ok (.iconst 1, 1) := by decide +kernel
theorem dX11_sortsBy_48 : decode cX11_sortsBy 48 = .ok (.iload 6, 2) := by decide +kernel
theorem dX11_sortsBy_50 : decode cX11_sortsBy 50 = .ok (.ishl, 1) := by decide +kernel
theorem dX11_sortsBy_51 : decode cX11_sortsBy 51 = .ok (.ior, 1) := by decide +kernel
theorem dX11_sortsBy_52 : decode cX11_sortsBy 52 = .ok (.istore 5, 2) := by decide +kernel
theorem dX11_sortsBy_54 : decode cX11_sortsBy 54 = .ok (.iinc 6 1, 3) := by decide +kernel
theorem dX11_sortsBy_57 : decode cX11_sortsBy 57 = .ok (.goto (-51), 3) := by decide +kernel
theorem dX11_sortsBy_60 : decode cX11_sortsBy 60 = .ok (.iload 5, 2) := by decide +kernel
theorem dX11_sortsBy_62 : decode cX11_sortsBy 62 = .ok (.ireturn, 1) := by decide +kernel
theorem dX11_boundsBy_0 : decode cX11_boundsBy 0 = .ok (.iconst 0, 1) := by decide +kernel
theorem dX11_boundsBy_1 : decode cX11_boundsBy 1 = .ok (.istore 4, 2) := by decide +kernel
theorem dX11_boundsBy_3 : decode cX11_boundsBy 3 = .ok (.iconst 0, 1) := by decide +kernel
theorem dX11_boundsBy_4 : decode cX11_boundsBy 4 = .ok (.istore 5, 2) := by decide +kernel
theorem dX11_boundsBy_6 : decode cX11_boundsBy 6 = .ok (.iload 5, 2) := by decide +kernel
theorem dX11_boundsBy_8 : decode cX11_boundsBy 8 = .ok (.bipush 29, 2) := by decide +kernel
theorem dX11_boundsBy_10 : decode cX11_boundsBy 10 = .ok (.if_icmp .gt 48, 3) := by decide +kernel
theorem dX11_boundsBy_13 : decode cX11_boundsBy 13 = .ok (.aload_n 0, 1) := by decide +kernel
theorem dX11_boundsBy_14 : decode cX11_boundsBy 14 = .ok (.getfield 49, 3) := by decide +kernel
theorem dX11_boundsBy_17 : decode cX11_boundsBy 17 = .ok (.aload_n 0, 1) := by decide +kernel
theorem dX11_boundsBy_18 : decode cX11_boundsBy 18 = .ok (.getfield 45, 3) := by decide +kernel
theorem dX11_boundsBy_21 : decode cX11_boundsBy 21 = .ok (.invokevirtual 133, 3) := by decide +kernel
theorem dX11_boundsBy_24 : decode cX11_boundsBy 24 = .ok (.aload_n 0, 1) := by decide +kernel
theorem dX11_boundsBy_25 : decode cX11_boundsBy 25 = .ok (.getfield 49, 3) := by decide +kernel
theorem dX11_boundsBy_28 : decode cX11_boundsBy 28 = .ok (.iload 5, 2) := by decide +kernel
theorem dX11_boundsBy_30 : decode cX11_boundsBy 30 = .ok (.putfield 280, 3) := by decide +kernel
theorem dX11_boundsBy_33 : decode cX11_boundsBy 33 = .ok (.aload_n 0, 1) := by decide +kernel
theorem dX11_boundsBy_34 : decode cX11_boundsBy 34 = .ok (.iload_n 1, 1) := by decide +kernel
theorem dX11_boundsBy_35 : decode cX11_boundsBy 35 = .ok (.iload_n 2, 1) := by decide +kernel
theorem dX11_boundsBy_36 : decode cX11_boundsBy 36 = .ok (.iload_n 3, 1) := by decide +kernel
theorem dX11_boundsBy_37 : decode cX11_boundsBy 37 = .ok (.invokevirtual 292, 3) := by decide +kernel
theorem dX11_boundsBy_40 : decode cX11_boundsBy 40 = .ok (.ifCond .eq 12, 3) := by decide +kernel
theorem dX11_boundsBy_43 : decode cX11_boundsBy 43 = .ok (.iload 4, 2) := by decide +kernel
theorem dX11_boundsBy_45 : decode cX11_boundsBy 45 = .ok (.iconst 1, 1) := by decide +kernel
theorem dX11_boundsBy_46 : decode cX11_boundsBy 46 = .ok (.iload 5, 2) := by decide +kernel
theorem dX11_boundsBy_48 : decode cX11_boundsBy 48 = .ok (.ishl, 1) := by decide +kernel
theorem dX11_boundsBy_49 : decode cX11_boundsBy 49 = .ok (.ior, 1) := by decide +kernel
theorem dX11_boundsBy_50 : decode cX11_boundsBy 50 = .ok (.istore 4, 2) := by decide +kernel
theorem dX11_boundsBy_52 : decode cX11_boundsBy 52 = .ok (.iinc 5 1, 3) := by decide +kernel
theorem dX11_boundsBy_55 : decode cX11_boundsBy 55 = .ok (.goto (-49), 3) := by decide +kernel
theorem dX11_boundsBy_58 : decode cX11_boundsBy 58 = .ok (.iload 4, 2) := by decide +kernel
theorem dX11_boundsBy_60 : decode cX11_boundsBy 60 = .ok (.ireturn, 1) := by decide +kernel
theorem dX11_playIsAsTold_0 : decode cX11_playIsAsTold 0 = .ok (.iconst 0, 1) := by decide +kernel
theorem dX11_playIsAsTold_1 : decode cX11_playIsAsTold 1 = .ok (.istore 4, 2) := by decide +kernel
theorem dX11_playIsAsTold_3 : decode cX11_playIsAsTold 3 = .ok (.iload 4, 2) := by decide +kernel
theorem dX11_playIsAsTold_5 : decode cX11_playIsAsTold 5 = .ok (.iload_n 3, 1) := by decide +kernel
theorem dX11_playIsAsTold_6 : decode cX11_playIsAsTold 6 = .ok (.if_icmp .ge 34, 3) := by decide +kernel
theorem dX11_playIsAsTold_9 : decode cX11_playIsAsTold 9 = .ok (.aload_n 0, 1) := by decide +kernel
theorem dX11_playIsAsTold_10 : decode cX11_playIsAsTold 10 = .ok (.getfield 49, 3) := by decide +kernel
theorem dX11_playIsAsTold_13 : decode cX11_playIsAsTold 13 = .ok (.iconst 0, 1) := by decide +kernel
theorem dX11_playIsAsTold_14 : decode cX11_playIsAsTold 14 = .ok (.invokevirtual 154, 3) := by decide +kernel
theorem dX11_playIsAsTold_17 : decode cX11_playIsAsTold 17 = .ok (.aload_n 0, 1) := by decide +kernel
theorem dX11_playIsAsTold_18 : decode cX11_playIsAsTold 18 = .ok (.getfield 27, 3) := by decide +kernel
theorem dX11_playIsAsTold_21 : decode cX11_playIsAsTold 21 = .ok (.iload_n 1, 1) := by decide +kernel
theorem dX11_playIsAsTold_22 : decode cX11_playIsAsTold 22 = .ok (.iload_n 2, 1) := by decide +kernel
theorem dX11_playIsAsTold_23 : decode cX11_playIsAsTold 23 = .ok (.iload 4, 2) := by decide +kernel
theorem dX11_playIsAsTold_25 : decode cX11_playIsAsTold 25 = .ok (.iadd, 1) := by decide +kernel
theorem dX11_playIsAsTold_26 : decode cX11_playIsAsTold 26 = .ok (.invokevirtual 295, 3) := by decide +kernel
theorem dX11_playIsAsTold_29 : decode cX11_playIsAsTold 29 = .ok (.if_icmp .eq 5, 3) := by decide +kernel
theorem dX11_playIsAsTold_32 : decode cX11_playIsAsTold 32 = .ok (.iconst 0, 1) := by decide +kernel
theorem dX11_playIsAsTold_33 : decode cX11_playIsAsTold 33 = .ok (.ireturn, 1) := by decide +kernel
theorem dX11_playIsAsTold_34 : decode cX11_playIsAsTold 34 = .ok (.iinc 4 1, 3) := by decide +kernel
theorem dX11_playIsAsTold_37 : decode cX11_playIsAsTold 37 = .ok (.goto (-34), 3) := by decide +kernel
theorem dX11_playIsAsTold_40 : decode cX11_playIsAsTold 40 = .ok (.iconst 1, 1) := by decide +kernel
theorem dX11_playIsAsTold_41 : decode cX11_playIsAsTold 41 = .ok (.ireturn, 1) := by decide +kernel
theorem dX11_waysOf_0 : decode cX11_waysOf 0 = .ok (.iconst 1, 1) := by decide +kernel
theorem dX11_waysOf_1 : decode cX11_waysOf 1 = .ok (.istore_n 3, 1) := by decide +kernel
theorem dX11_waysOf_2 : decode cX11_waysOf 2 = .ok (.iconst 0, 1) := by decide +kernel
theorem dX11_waysOf_3 : decode cX11_waysOf 3 = .ok (.istore 4, 2) := by decide +kernel
theorem dX11_waysOf_5 : decode cX11_waysOf 5 = .ok (.iload 4, 2) := by decide +kernel
theorem dX11_waysOf_7 : decode cX11_waysOf 7 = .ok (.aload_n 0, 1) := by decide +kernel
theorem dX11_waysOf_8 : decode cX11_waysOf 8 = .ok (.getfield 45, 3) := by decide +kernel
theorem dX11_waysOf_11 : decode cX11_waysOf 11 = .ok (.getfield 140, 3) := by decide +kernel
theorem dX11_waysOf_14 : decode cX11_waysOf 14 = .ok (.if_icmp .ge 29, 3) := by decide +kernel
theorem dX11_waysOf_17 : decode cX11_waysOf 17 = .ok (.iload_n 3, 1) := by decide +kernel
theorem dX11_waysOf_18 : decode cX11_waysOf 18 = .ok (.iload_n 1, 1) := by decide +kernel
theorem dX11_waysOf_19 : decode cX11_waysOf 19 = .ok (.iload 4, 2) := by decide +kernel
theorem dX11_waysOf_21 : decode cX11_waysOf 21 = .ok (.invokestatic 298, 3) := by decide +kernel
theorem dX11_waysOf_24 : decode cX11_waysOf 24 = .ok (.ifCond .eq 7, 3) := by decide +kernel
theorem dX11_waysOf_27 : decode cX11_waysOf 27 = .ok (.iload_n 2, 1) := by decide +kernel
theorem dX11_waysOf_28 : decode cX11_waysOf 28 = .ok (.goto 7, 3) := by decide +kernel
theorem dX11_waysOf_31 : decode cX11_waysOf 31 = .ok (.bipush 10, 2) := by decide +kernel
theorem dX11_waysOf_33 : decode cX11_waysOf 33 = .ok (.iload_n 2, 1) := by decide +kernel
theorem dX11_waysOf_34 : decode cX11_waysOf 34 = .ok (.isub, 1) := by decide +kernel
theorem dX11_waysOf_35 : decode cX11_waysOf 35 = .ok (.imul, 1) := by decide +kernel
theorem dX11_waysOf_36 : decode cX11_waysOf 36 = .ok (.istore_n 3, 1) := by decide +kernel
theorem dX11_waysOf_37 : decode cX11_waysOf 37 = .ok (.iinc 4 1, 3) := by decide +kernel
theorem dX11_waysOf_40 : decode cX11_waysOf 40 = .ok (.goto (-35), 3) := by decide +kernel
theorem dX11_waysOf_43 : decode cX11_waysOf 43 = .ok (.iload_n 3, 1) := by decide +kernel
theorem dX11_waysOf_44 : decode cX11_waysOf 44 = .ok (.ireturn, 1) := by decide +kernel
theorem dX11_sharedBy_0 : decode cX11_sharedBy 0 = .ok (.iload_n 1, 1) := by decide +kernel
theorem dX11_sharedBy_1 : decode cX11_sharedBy 1 = .ok (.istore_n 2, 1) := by decide +kernel
theorem dX11_sharedBy_2 : decode cX11_sharedBy 2 = .ok (.iload_n 0, 1) := by decide +kernel
theorem dX11_sharedBy_3 : decode cX11_sharedBy 3 = .ok (.istore_n 3, 1) := by decide +kernel
theorem dX11_sharedBy_4 : decode cX11_sharedBy 4 = .ok (.iconst 0, 1) := by decide +kernel
theorem dX11_sharedBy_5 : decode cX11_sharedBy 5 = .ok (.istore 4, 2) := by decide +kernel
theorem dX11_sharedBy_7 : decode cX11_sharedBy 7 = .ok (.iload 4, 2) := by decide +kernel
theorem dX11_sharedBy_9 : decode cX11_sharedBy 9 = .ok (.bipush 100, 2) := by decide +kernel
theorem dX11_sharedBy_11 : decode cX11_sharedBy 11 = .ok (.if_icmp .ge 23, 3) := by decide +kernel
theorem dX11_sharedBy_14 : decode cX11_sharedBy 14 = .ok (.iload_n 3, 1) := by decide +kernel
theorem dX11_sharedBy_15 : decode cX11_sharedBy 15 = .ok (.ifCond .le 19, 3) := by decide +kernel
theorem dX11_sharedBy_18 : decode cX11_sharedBy 18 = .ok (.iload_n 2, 1) := by decide +kernel
theorem dX11_sharedBy_19 : decode cX11_sharedBy 19 = .ok (.iload_n 3, 1) := by decide +kernel
theorem dX11_sharedBy_20 : decode cX11_sharedBy 20 = .ok (.irem, 1) := by decide +kernel
theorem dX11_sharedBy_21 : decode cX11_sharedBy 21 = .ok (.istore 5, 2) := by decide +kernel
theorem dX11_sharedBy_23 : decode cX11_sharedBy 23 = .ok (.iload_n 3, 1) := by decide +kernel
theorem dX11_sharedBy_24 : decode cX11_sharedBy 24 = .ok (.istore_n 2, 1) := by decide +kernel
theorem dX11_sharedBy_25 : decode cX11_sharedBy 25 = .ok (.iload 5, 2) := by decide +kernel
theorem dX11_sharedBy_27 : decode cX11_sharedBy 27 = .ok (.istore_n 3, 1) := by decide +kernel
theorem dX11_sharedBy_28 : decode cX11_sharedBy 28 = .ok (.iinc 4 1, 3) := by decide +kernel
theorem dX11_sharedBy_31 : decode cX11_sharedBy 31 = .ok (.goto (-24), 3) := by decide +kernel
theorem dX11_sharedBy_34 : decode cX11_sharedBy 34 = .ok (.iload_n 2, 1) := by decide +kernel
theorem dX11_sharedBy_35 : decode cX11_sharedBy 35 = .ok (.iconst 1, 1) := by decide +kernel
theorem dX11_sharedBy_36 : decode cX11_sharedBy 36 = .ok (.invokestatic 302, 3) := by decide +kernel
theorem dX11_sharedBy_39 : decode cX11_sharedBy 39 = .ok (.ireturn, 1) := by decide +kernel
theorem dX11_preachByDraw_0 : decode cX11_preachByDraw 0 = .ok (.aload_n 0, 1) := by decide +kernel
theorem dX11_preachByDraw_1 : decode cX11_preachByDraw 1 = .ok (.getfield 49, 3) := by decide +kernel
theorem dX11_preachByDraw_4 : decode cX11_preachByDraw 4 = .ok (.getfield 140, 3) := by decide +kernel
theorem dX11_preachByDraw_7 : decode cX11_preachByDraw 7 = .ok (.ifCond .le 28, 3) := by decide +kernel
theorem dX11_preachByDraw_10 : decode cX11_preachByDraw 10 = .ok (.aload_n 0, 1) := by decide +kernel
theorem dX11_preachByDraw_11 : decode cX11_preachByDraw 11 = .ok (.getfield 49, 3) := by decide +kernel
theorem dX11_preachByDraw_14 : decode cX11_preachByDraw 14 = .ok (.getfield 175, 3) := by decide +kernel
theorem dX11_preachByDraw_17 : decode cX11_preachByDraw 17 = .ok (.lload_n 1, 1) := by decide +kernel
theorem dX11_preachByDraw_18 : decode cX11_preachByDraw 18 = .ok (.aload_n 0, 1) := by decide +kernel
theorem dX11_preachByDraw_19 : decode cX11_preachByDraw 19 = .ok (.getfield 49, 3) := by decide +kernel
theorem dX11_preachByDraw_22 : decode cX11_preachByDraw 22 = .ok (.getfield 140, 3) := by decide +kernel
theorem dX11_preachByDraw_25 : decode cX11_preachByDraw 25 = .ok (.i2l, 1) := by decide +kernel
theorem dX11_preachByDraw_26 : decode cX11_preachByDraw 26 = .ok (.lrem, 1) := by decide +kernel
theorem dX11_preachByDraw_27 : decode cX11_preachByDraw 27 = .ok (.l2i, 1) := by decide +kernel
theorem dX11_preachByDraw_28 : decode cX11_preachByDraw 28 = .ok (.lload_n 1, 1) := by decide +kernel
theorem dX11_preachByDraw_29 : decode cX11_preachByDraw 29 = .ok (.ldc2_w 307, 3) := by decide +kernel
theorem dX11_preachByDraw_32 : decode cX11_preachByDraw 32 = .ok (.lrem, 1) := by decide +kernel
theorem dX11_preachByDraw_33 : decode cX11_preachByDraw 33 = .ok (.l2i, 1) := by decide +kernel
theorem dX11_preachByDraw_34 : decode cX11_preachByDraw 34 = .ok (.iastore, 1) := by decide +kernel
theorem dX11_preachByDraw_35 : decode cX11_preachByDraw 35 = .ok (.return_, 1) := by decide +kernel
