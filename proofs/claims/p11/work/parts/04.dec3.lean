/-! written by program (wip/gen) -/
theorem dX5_next_134 : decode cX5_next 134 = .ok (.ireturn, 1) := by decide +kernel
theorem dX5_next_135 : decode cX5_next 135 = .ok (.aload_n 0, 1) := by decide +kernel
theorem dX5_next_136 : decode cX5_next 136 = .ok (.iconst 1, 1) := by decide +kernel
theorem dX5_next_137 : decode cX5_next 137 = .ok (.putfield 56, 3) := by decide +kernel
theorem dX5_next_140 : decode cX5_next 140 = .ok (.iconst 1, 1) := by decide +kernel
theorem dX5_next_141 : decode cX5_next 141 = .ok (.ireturn, 1) := by decide +kernel
theorem dX5_segment_0 : decode cX5_segment 0 = .ok (.iload_n 1, 1) := by decide +kernel
theorem dX5_segment_1 : decode cX5_segment 1 = .ok (.ifCond .lt 8, 3) := by decide +kernel
theorem dX5_segment_4 : decode cX5_segment 4 = .ok (.iload_n 1, 1) := by decide +kernel
theorem dX5_segment_5 : decode cX5_segment 5 = .ok (.iconst 5, 1) := by decide +kernel
theorem dX5_segment_6 : decode cX5_segment 6 = .ok (.if_icmp .le 13, 3) := by decide +kernel
theorem dX5_segment_9 : decode cX5_segment 9 = .ok (.new 88, 3) := by decide +kernel
theorem dX5_segment_12 : decode cX5_segment 12 = .ok (.dup, 1) := by decide +kernel
theorem dX5_segment_13 : decode cX5_segment 13 = .ok (.ldc 213, 2) := by decide +kernel
theorem dX5_segment_15 : decode cX5_segment 15 = .ok (.invokespecial 92, 3) := by decide +kernel
theorem dX5_segment_18 : decode cX5_segment 18 = .ok (.athrow, 1) := by decide +kernel
theorem dX5_segment_19 : decode cX5_segment 19 = .ok (.aload_n 0, 1) := by decide +kernel
theorem dX5_segment_20 : decode cX5_segment 20 = .ok (.getfield 56, 3) := by decide +kernel
theorem dX5_segment_23 : decode cX5_segment 23 = .ok (.ifCond .ne 13, 3) := by decide +kernel
theorem dX5_segment_26 : decode cX5_segment 26 = .ok (.new 73, 3) := by decide +kernel
theorem dX5_segment_29 : decode cX5_segment 29 = .ok (.dup, 1) := by decide +kernel
theorem dX5_segment_30 : decode cX5_segment 30 = .ok (.ldc 215, 2) := by decide +kernel
theorem dX5_segment_32 : decode cX5_segment 32 = .ok (.invokespecial 77, 3) := by decide +kernel
theorem dX5_segment_35 : decode cX5_segment 35 = .ok (.athrow, 1) := by decide +kernel
theorem dX5_segment_36 : decode cX5_segment 36 = .ok (.iload_n 1, 1) := by decide +kernel
theorem dX5_segment_37 : decode cX5_segment 37 = .ok (.tableswitch 75 0 4 #[35, 43, 51, 59, 67], 35) := by decide +kernel
theorem dX5_segment_72 : decode cX5_segment 72 = .ok (.aload_n 0, 1) := by decide +kernel
theorem dX5_segment_73 : decode cX5_segment 73 = .ok (.getfield 53, 3) := by decide +kernel
theorem dX5_segment_76 : decode cX5_segment 76 = .ok (.getfield 217, 3) := by decide +kernel
theorem dX5_segment_79 : decode cX5_segment 79 = .ok (.ireturn, 1) := by decide +kernel
theorem dX5_segment_80 : decode cX5_segment 80 = .ok (.aload_n 0, 1) := by decide +kernel
theorem dX5_segment_81 : decode cX5_segment 81 = .ok (.getfield 53, 3) := by decide +kernel
theorem dX5_segment_84 : decode cX5_segment 84 = .ok (.getfield 220, 3) := by decide +kernel
theorem dX5_segment_87 : decode cX5_segment 87 = .ok (.ireturn, 1) := by decide +kernel
theorem dX5_segment_88 : decode cX5_segment 88 = .ok (.aload_n 0, 1) := by decide +kernel
theorem dX5_segment_89 : decode cX5_segment 89 = .ok (.getfield 53, 3) := by decide +kernel
theorem dX5_segment_92 : decode cX5_segment 92 = .ok (.getfield 223, 3) := by decide +kernel
theorem dX5_segment_95 : decode cX5_segment 95 = .ok (.ireturn, 1) := by decide +kernel
theorem dX5_segment_96 : decode cX5_segment 96 = .ok (.aload_n 0, 1) := by decide +kernel
theorem dX5_segment_97 : decode cX5_segment 97 = .ok (.getfield 53, 3) := by decide +kernel
theorem dX5_segment_100 : decode cX5_segment 100 = .ok (.getfield 226, 3) := by decide +kernel
theorem dX5_segment_103 : decode cX5_segment 103 = .ok (.ireturn, 1) := by decide +kernel
theorem dX5_segment_104 : decode cX5_segment 104 = .ok (.aload_n 0, 1) := by decide +kernel
theorem dX5_segment_105 : decode cX5_segment 105 = .ok (.getfield 53, 3) := by decide +kernel
theorem dX5_segment_108 : decode cX5_segment 108 = .ok (.getfield 229, 3) := by decide +kernel
theorem dX5_segment_111 : decode cX5_segment 111 = .ok (.ireturn, 1) := by decide +kernel
theorem dX5_segment_112 : decode cX5_segment 112 = .ok (.aload_n 0, 1) := by decide +kernel
theorem dX5_segment_113 : decode cX5_segment 113 = .ok (.getfield 53, 3) := by decide +kernel
theorem dX5_segment_116 : decode cX5_segment 116 = .ok (.getfield 230, 3) := by decide +kernel
theorem dX5_segment_119 : decode cX5_segment 119 = .ok (.ireturn, 1) := by decide +kernel
theorem dX5_byteAt_0 : decode cX5_byteAt 0 = .ok (.aload_n 0, 1) := by decide +kernel
theorem dX5_byteAt_1 : decode cX5_byteAt 1 = .ok (.getfield 56, 3) := by decide +kernel
theorem dX5_byteAt_4 : decode cX5_byteAt 4 = .ok (.ifCond .ne 13, 3) := by decide +kernel
theorem dX5_byteAt_7 : decode cX5_byteAt 7 = .ok (.new 73, 3) := by decide +kernel
theorem dX5_byteAt_10 : decode cX5_byteAt 10 = .ok (.dup, 1) := by decide +kernel
theorem dX5_byteAt_11 : decode cX5_byteAt 11 = .ok (.ldc 215, 2) := by decide +kernel
theorem dX5_byteAt_13 : decode cX5_byteAt 13 = .ok (.invokespecial 77, 3) := by decide +kernel
theorem dX5_byteAt_16 : decode cX5_byteAt 16 = .ok (.athrow, 1) := by decide +kernel
theorem dX5_byteAt_17 : decode cX5_byteAt 17 = .ok (.iload_n 1, 1) := by decide +kernel
theorem dX5_byteAt_18 : decode cX5_byteAt 18 = .ok (.ifCond .lt 14, 3) := by decide +kernel
theorem dX5_byteAt_21 : decode cX5_byteAt 21 = .ok (.iload_n 1, 1) := by decide +kernel
theorem dX5_byteAt_22 : decode cX5_byteAt 22 = .ok (.aload_n 0, 1) := by decide +kernel
theorem dX5_byteAt_23 : decode cX5_byteAt 23 = .ok (.getfield 53, 3) := by decide +kernel
theorem dX5_byteAt_26 : decode cX5_byteAt 26 = .ok (.getfield 230, 3) := by decide +kernel
theorem dX5_byteAt_29 : decode cX5_byteAt 29 = .ok (.if_icmp .lt 13, 3) := by decide +kernel
theorem dX5_byteAt_32 : decode cX5_byteAt 32 = .ok (.new 233, 3) := by decide +kernel
theorem dX5_byteAt_35 : decode cX5_byteAt 35 = .ok (.dup, 1) := by decide +kernel
theorem dX5_byteAt_36 : decode cX5_byteAt 36 = .ok (.ldc 235, 2) := by decide +kernel
theorem dX5_byteAt_38 : decode cX5_byteAt 38 = .ok (.invokespecial 237, 3) := by decide +kernel
theorem dX5_byteAt_41 : decode cX5_byteAt 41 = .ok (.athrow, 1) := by decide +kernel
theorem dX5_byteAt_42 : decode cX5_byteAt 42 = .ok (.aload_n 0, 1) := by decide +kernel
theorem dX5_byteAt_43 : decode cX5_byteAt 43 = .ok (.getfield 53, 3) := by decide +kernel
theorem dX5_byteAt_46 : decode cX5_byteAt 46 = .ok (.getfield 238, 3) := by decide +kernel
theorem dX5_byteAt_49 : decode cX5_byteAt 49 = .ok (.iload_n 1, 1) := by decide +kernel
theorem dX5_byteAt_50 : decode cX5_byteAt 50 = .ok (.baload, 1) := by decide +kernel
theorem dX5_byteAt_51 : decode cX5_byteAt 51 = .ok (.sipush 255, 3) := by decide +kernel
theorem dX5_byteAt_54 : decode cX5_byteAt 54 = .ok (.iand, 1) := by decide +kernel
theorem dX5_byteAt_55 : decode cX5_byteAt 55 = .ok (.ireturn, 1) := by decide +kernel
theorem dX5_feed_0 : decode cX5_feed 0 = .ok (.iload_n 3, 1) := by decide +kernel
theorem dX5_feed_1 : decode cX5_feed 1 = .ok (.invokestatic 84, 3) := by decide +kernel
theorem dX5_feed_4 : decode cX5_feed 4 = .ok (.ifCond .ne 13, 3) := by decide +kernel
theorem dX5_feed_7 : decode cX5_feed 7 = .ok (.new 88, 3) := by decide +kernel
theorem dX5_feed_10 : decode cX5_feed 10 = .ok (.dup, 1) := by decide +kernel
theorem dX5_feed_11 : decode cX5_feed 11 = .ok (.ldc 242, 2) := by decide +kernel
theorem dX5_feed_13 : decode cX5_feed 13 = .ok (.invokespecial 92, 3) := by decide +kernel
theorem dX5_feed_16 : decode cX5_feed 16 = .ok (.athrow, 1) := by decide +kernel
theorem dX5_feed_17 : decode cX5_feed 17 = .ok (.iload_n 3, 1) := by decide +kernel
theorem dX5_feed_18 : decode cX5_feed 18 = .ok (.sipush 1460, 3) := by decide +kernel
theorem dX5_feed_21 : decode cX5_feed 21 = .ok (.aload_n 0, 1) := by decide +kernel
theorem dX5_feed_22 : decode cX5_feed 22 = .ok (.getfield 49, 3) := by decide +kernel
theorem dX5_feed_25 : decode cX5_feed 25 = .ok (.getfield 230, 3) := by decide +kernel
theorem dX5_feed_28 : decode cX5_feed 28 = .ok (.isub, 1) := by decide +kernel
theorem dX5_feed_29 : decode cX5_feed 29 = .ok (.if_icmp .le 13, 3) := by decide +kernel
theorem dX5_feed_32 : decode cX5_feed 32 = .ok (.new 73, 3) := by decide +kernel
theorem dX5_feed_35 : decode cX5_feed 35 = .ok (.dup, 1) := by decide +kernel
theorem dX5_feed_36 : decode cX5_feed 36 = .ok (.ldc 244, 2) := by decide +kernel
theorem dX5_feed_38 : decode cX5_feed 38 = .ok (.invokespecial 77, 3) := by decide +kernel
theorem dX5_feed_41 : decode cX5_feed 41 = .ok (.athrow, 1) := by decide +kernel
theorem dX5_feed_42 : decode cX5_feed 42 = .ok (.iconst 0, 1) := by decide +kernel
theorem dX5_feed_43 : decode cX5_feed 43 = .ok (.istore 4, 2) := by decide +kernel
theorem dX5_feed_45 : decode cX5_feed 45 = .ok (.iload 4, 2) := by decide +kernel
theorem dX5_feed_47 : decode cX5_feed 47 = .ok (.iload_n 3, 1) := by decide +kernel
theorem dX5_feed_48 : decode cX5_feed 48 = .ok (.if_icmp .ge 23, 3) := by decide +kernel
theorem dX5_feed_51 : decode cX5_feed 51 = .ok (.aload_n 0, 1) := by decide +kernel
theorem dX5_feed_52 : decode cX5_feed 52 = .ok (.getfield 49, 3) := by decide +kernel
theorem dX5_feed_55 : decode cX5_feed 55 = .ok (.lload_n 1, 1) := by decide +kernel
theorem dX5_feed_56 : decode cX5_feed 56 = .ok (.iload_n 3, 1) := by decide +kernel
theorem dX5_feed_57 : decode cX5_feed 57 = .ok (.iload 4, 2) := by decide +kernel
theorem dX5_feed_59 : decode cX5_feed 59 = .ok (.invokestatic 108, 3) := by decide +kernel
theorem dX5_feed_62 : decode cX5_feed 62 = .ok (.invokevirtual 246, 3) := by decide +kernel
theorem dX5_feed_65 : decode cX5_feed 65 = .ok (.iinc 4 1, 3) := by decide +kernel
theorem dX5_feed_68 : decode cX5_feed 68 = .ok (.goto (-23), 3) := by decide +kernel
theorem dX5_feed_71 : decode cX5_feed 71 = .ok (.aload_n 0, 1) := by decide +kernel
theorem dX5_feed_72 : decode cX5_feed 72 = .ok (.getfield 49, 3) := by decide +kernel
theorem dX5_feed_75 : decode cX5_feed 75 = .ok (.getfield 230, 3) := by decide +kernel
theorem dX5_feed_78 : decode cX5_feed 78 = .ok (.ireturn, 1) := by decide +kernel
theorem dX5_isWidth_0 : decode cX5_isWidth 0 = .ok (.iload_n 0, 1) := by decide +kernel
theorem dX5_isWidth_1 : decode cX5_isWidth 1 = .ok (.ifCond .lt 14, 3) := by decide +kernel
theorem dX5_isWidth_4 : decode cX5_isWidth 4 = .ok (.iload_n 0, 1) := by decide +kernel
theorem dX5_isWidth_5 : decode cX5_isWidth 5 = .ok (.ldc_w 284, 3) := by decide +kernel
theorem dX5_isWidth_8 : decode cX5_isWidth 8 = .ok (.if_icmp .gt 7, 3) := by decide +kernel
theorem dX5_isWidth_11 : decode cX5_isWidth 11 = .ok (.iconst 1, 1) := by decide +kernel
theorem dX5_isWidth_12 : decode cX5_isWidth 12 = .ok (.goto 4, 3) := by decide +kernel
theorem dX5_isWidth_15 : decode cX5_isWidth 15 = .ok (.iconst 0, 1) := by decide +kernel
theorem dX5_isWidth_16 : decode cX5_isWidth 16 = .ok (.ireturn, 1) := by decide +kernel
theorem dX3_size_0 : decode cX3_size 0 = .ok (.aload_n 0, 1) := by decide +kernel
theorem dX3_size_1 : decode cX3_size 1 = .ok (.getfield 31, 3) := by decide +kernel
theorem dX3_size_4 : decode cX3_size 4 = .ok (.aload_n 0, 1) := by decide +kernel
theorem dX3_size_5 : decode cX3_size 5 = .ok (.iconst 1, 1) := by decide +kernel
theorem dX3_size_6 : decode cX3_size 6 = .ok (.invokevirtual 34, 3) := by decide +kernel
theorem dX3_size_9 : decode cX3_size 9 = .ok (.ifCond .eq 7, 3) := by decide +kernel
theorem dX3_size_12 : decode cX3_size 12 = .ok (.iconst 1, 1) := by decide +kernel
theorem dX3_size_13 : decode cX3_size 13 = .ok (.goto 4, 3) := by decide +kernel
theorem dX3_size_16 : decode cX3_size 16 = .ok (.iconst 0, 1) := by decide +kernel
theorem dX3_size_17 : decode cX3_size 17 = .ok (.iadd, 1) := by decide +kernel
theorem dX3_size_18 : decode cX3_size 18 = .ok (.aload_n 0, 1) := by decide +kernel
theorem dX3_size_19 : decode cX3_size 19 = .ok (.iconst 2, 1) := by decide +kernel
theorem dX3_size_20 : decode cX3_size 20 = .ok (.invokevirtual 34, 3) := by decide +kernel
theorem dX3_size_23 : decode cX3_size 23 = .ok (.ifCond .eq 7, 3) := by decide +kernel
theorem dX3_size_26 : decode cX3_size 26 = .ok (.iconst 1, 1) := by decide +kernel
theorem dX3_size_27 : decode cX3_size 27 = .ok (.goto 4, 3) := by decide +kernel
theorem dX3_size_30 : decode cX3_size 30 = .ok (.iconst 0, 1) := by decide +kernel
theorem dX3_size_31 : decode cX3_size 31 = .ok (.iadd, 1) := by decide +kernel
theorem dX3_size_32 : decode cX3_size 32 = .ok (.ireturn, 1) := by decide +kernel
theorem dX1_fits_0 : decode cX1_fits 0 = .ok (.iload_n 1, 1) := by decide +kernel
theorem dX1_fits_1 : decode cX1_fits 1 = .ok (.aload_n 0, 1) := by decide +kernel
theorem dX1_fits_2 : decode cX1_fits 2 = .ok (.getfield 25, 3) := by decide +kernel
theorem dX1_fits_5 : decode cX1_fits 5 = .ok (.isub, 1) := by decide +kernel
theorem dX1_fits_6 : decode cX1_fits 6 = .ok (.istore_n 3, 1) := by decide +kernel
theorem dX1_fits_7 : decode cX1_fits 7 = .ok (.iload_n 2, 1) := by decide +kernel
theorem dX1_fits_8 : decode cX1_fits 8 = .ok (.ifCond .ne 25, 3) := by decide +kernel
theorem dX1_fits_11 : decode cX1_fits 11 = .ok (.iload_n 3, 1) := by decide +kernel
theorem dX1_fits_12 : decode cX1_fits 12 = .ok (.ifCond .eq 15, 3) := by decide +kernel
theorem dX1_fits_15 : decode cX1_fits 15 = .ok (.iload_n 3, 1) := by decide +kernel
theorem dX1_fits_16 : decode cX1_fits 16 = .ok (.ifCond .le 15, 3) := by decide +kernel
theorem dX1_fits_19 : decode cX1_fits 19 = .ok (.iload_n 3, 1) := by decide +kernel
theorem dX1_fits_20 : decode cX1_fits 20 = .ok (.aload_n 0, 1) := by decide +kernel
theorem dX1_fits_21 : decode cX1_fits 21 = .ok (.invokevirtual 44, 3) := by decide +kernel
theorem dX1_fits_24 : decode cX1_fits 24 = .ok (.if_icmp .ge 7, 3) := by decide +kernel
theorem dX1_fits_27 : decode cX1_fits 27 = .ok (.iconst 1, 1) := by decide +kernel
theorem dX1_fits_28 : decode cX1_fits 28 = .ok (.goto 4, 3) := by decide +kernel
theorem dX1_fits_31 : decode cX1_fits 31 = .ok (.iconst 0, 1) := by decide +kernel
theorem dX1_fits_32 : decode cX1_fits 32 = .ok (.ireturn, 1) := by decide +kernel
theorem dX1_fits_33 : decode cX1_fits 33 = .ok (.aload_n 0, 1) := by decide +kernel
theorem dX1_fits_34 : decode cX1_fits 34 = .ok (.invokevirtual 44, 3) := by decide +kernel
theorem dX1_fits_37 : decode cX1_fits 37 = .ok (.ifCond .le 21, 3) := by decide +kernel
theorem dX1_fits_40 : decode cX1_fits 40 = .ok (.iload_n 3, 1) := by decide +kernel
theorem dX1_fits_41 : decode cX1_fits 41 = .ok (.iload_n 2, 1) := by decide +kernel
theorem dX1_fits_42 : decode cX1_fits 42 = .ok (.ineg, 1) := by decide +kernel
theorem dX1_fits_43 : decode cX1_fits 43 = .ok (.if_icmp .le 15, 3) := by decide +kernel
theorem dX1_fits_46 : decode cX1_fits 46 = .ok (.iload_n 3, 1) := by decide +kernel
theorem dX1_fits_47 : decode cX1_fits 47 = .ok (.aload_n 0, 1) := by decide +kernel
theorem dX1_fits_48 : decode cX1_fits 48 = .ok (.invokevirtual 44, 3) := by decide +kernel
theorem dX1_fits_51 : decode cX1_fits 51 = .ok (.if_icmp .ge 7, 3) := by decide +kernel
theorem dX1_fits_54 : decode cX1_fits 54 = .ok (.iconst 1, 1) := by decide +kernel
theorem dX1_fits_55 : decode cX1_fits 55 = .ok (.goto 4, 3) := by decide +kernel
theorem dX1_fits_58 : decode cX1_fits 58 = .ok (.iconst 0, 1) := by decide +kernel
theorem dX1_fits_59 : decode cX1_fits 59 = .ok (.ireturn, 1) := by decide +kernel
theorem dX5_isBefore_0 : decode cX5_isBefore 0 = .ok (.iload_n 1, 1) := by decide +kernel
theorem dX5_isBefore_1 : decode cX5_isBefore 1 = .ok (.iload_n 0, 1) := by decide +kernel
theorem dX5_isBefore_2 : decode cX5_isBefore 2 = .ok (.isub, 1) := by decide +kernel
theorem dX5_isBefore_3 : decode cX5_isBefore 3 = .ok (.ifCond .le 7, 3) := by decide +kernel
theorem dX5_isBefore_6 : decode cX5_isBefore 6 = .ok (.iconst 1, 1) := by decide +kernel
theorem dX5_isBefore_7 : decode cX5_isBefore 7 = .ok (.goto 4, 3) := by decide +kernel
theorem dX5_isBefore_10 : decode cX5_isBefore 10 = .ok (.iconst 0, 1) := by decide +kernel
theorem dX5_isBefore_11 : decode cX5_isBefore 11 = .ok (.ireturn, 1) := by decide +kernel
theorem dX5_isNotBehind_0 : decode cX5_isNotBehind 0 = .ok (.iload_n 1, 1) := by decide +kernel
theorem dX5_isNotBehind_1 : decode cX5_isNotBehind 1 = .ok (.iload_n 0, 1) := by decide +kernel
theorem dX5_isNotBehind_2 : decode cX5_isNotBehind 2 = .ok (.isub, 1) := by decide +kernel
theorem dX5_isNotBehind_3 : decode cX5_isNotBehind 3 = .ok (.ifCond .lt 7, 3) := by decide +kernel
theorem dX5_isNotBehind_6 : decode cX5_isNotBehind 6 = .ok (.iconst 1, 1) := by decide +kernel
theorem dX5_isNotBehind_7 : decode cX5_isNotBehind 7 = .ok (.goto 4, 3) := by decide +kernel
theorem dX5_isNotBehind_10 : decode cX5_isNotBehind 10 = .ok (.iconst 0, 1) := by decide +kernel
theorem dX5_isNotBehind_11 : decode cX5_isNotBehind 11 = .ok (.ireturn, 1) := by decide +kernel
theorem dX2_windowIsOlderThan_0 : decode cX2_windowIsOlderThan 0 = .ok (.aload_n 0, 1) := by decide +kernel
theorem dX2_windowIsOlderThan_1 : decode cX2_windowIsOlderThan 1 = .ok (.getfield 84, 3) := by decide +kernel
theorem dX2_windowIsOlderThan_4 : decode cX2_windowIsOlderThan 4 = .ok (.aload_n 1, 1) := by decide +kernel
theorem dX2_windowIsOlderThan_5 : decode cX2_windowIsOlderThan 5 = .ok (.getfield 90, 3) := by decide +kernel
theorem dX2_windowIsOlderThan_8 : decode cX2_windowIsOlderThan 8 = .ok (.invokestatic 93, 3) := by decide +kernel
theorem dX2_windowIsOlderThan_11 : decode cX2_windowIsOlderThan 11 = .ok (.ifCond .ne 28, 3) := by decide +kernel
theorem dX2_windowIsOlderThan_14 : decode cX2_windowIsOlderThan 14 = .ok (.aload_n 0, 1) := by decide +kernel
theorem dX2_windowIsOlderThan_15 : decode cX2_windowIsOlderThan 15 = .ok (.getfield 84, 3) := by decide +kernel
theorem dX2_windowIsOlderThan_18 : decode cX2_windowIsOlderThan 18 = .ok (.aload_n 1, 1) := by decide +kernel
theorem dX2_windowIsOlderThan_19 : decode cX2_windowIsOlderThan 19 = .ok (.getfield 90, 3) := by decide +kernel
theorem dX2_windowIsOlderThan_22 : decode cX2_windowIsOlderThan 22 = .ok (.if_icmp .ne 21, 3) := by decide +kernel
theorem dX2_windowIsOlderThan_25 : decode cX2_windowIsOlderThan 25 = .ok (.aload_n 0, 1) := by decide +kernel
theorem dX2_windowIsOlderThan_26 : decode cX2_windowIsOlderThan 26 = .ok (.getfield 87, 3) := by decide +kernel
theorem dX2_windowIsOlderThan_29 : decode cX2_windowIsOlderThan 29 = .ok (.aload_n 1, 1) := by decide +kernel
theorem dX2_windowIsOlderThan_30 : decode cX2_windowIsOlderThan 30 = .ok (.getfield 97, 3) := by decide +kernel
theorem dX2_windowIsOlderThan_33 : decode cX2_windowIsOlderThan 33 = .ok (.invokestatic 100, 3) := by decide +kernel
theorem dX2_windowIsOlderThan_36 : decode cX2_windowIsOlderThan 36 = .ok (.ifCond .eq 7, 3) := by decide +kernel
theorem dX2_windowIsOlderThan_39 : decode cX2_windowIsOlderThan 39 = .ok (.iconst 1, 1) := by decide +kernel
theorem dX2_windowIsOlderThan_40 : decode cX2_windowIsOlderThan 40 = .ok (.goto 4, 3) := by decide +kernel
theorem dX2_windowIsOlderThan_43 : decode cX2_windowIsOlderThan 43 = .ok (.iconst 0, 1) := by decide +kernel
theorem dX2_windowIsOlderThan_44 : decode cX2_windowIsOlderThan 44 = .ok (.ireturn, 1) := by decide +kernel
theorem dX5_takeWindow_0 : decode cX5_takeWindow 0 = .ok (.aload_n 0, 1) := by decide +kernel
theorem dX5_takeWindow_1 : decode cX5_takeWindow 1 = .ok (.getfield 49, 3) := by decide +kernel
theorem dX5_takeWindow_4 : decode cX5_takeWindow 4 = .ok (.getfield 223, 3) := by decide +kernel
theorem dX5_takeWindow_7 : decode cX5_takeWindow 7 = .ok (.aload_n 0, 1) := by decide +kernel
theorem dX5_takeWindow_8 : decode cX5_takeWindow 8 = .ok (.getfield 21, 3) := by decide +kernel
theorem dX5_takeWindow_11 : decode cX5_takeWindow 11 = .ok (.getfield 259, 3) := by decide +kernel
theorem dX5_takeWindow_14 : decode cX5_takeWindow 14 = .ok (.invokestatic 408, 3) := by decide +kernel
theorem dX5_takeWindow_17 : decode cX5_takeWindow 17 = .ok (.ifCond .ne 17, 3) := by decide +kernel
theorem dX5_takeWindow_20 : decode cX5_takeWindow 20 = .ok (.aload_n 0, 1) := by decide +kernel
theorem dX5_takeWindow_21 : decode cX5_takeWindow 21 = .ok (.getfield 21, 3) := by decide +kernel
theorem dX5_takeWindow_24 : decode cX5_takeWindow 24 = .ok (.aload_n 0, 1) := by decide +kernel
theorem dX5_takeWindow_25 : decode cX5_takeWindow 25 = .ok (.getfield 49, 3) := by decide +kernel
theorem dX5_takeWindow_28 : decode cX5_takeWindow 28 = .ok (.invokevirtual 429, 3) := by decide +kernel
theorem dX5_takeWindow_31 : decode cX5_takeWindow 31 = .ok (.ifCond .ne 4, 3) := by decide +kernel
theorem dX5_takeWindow_34 : decode cX5_takeWindow 34 = .ok (.return_, 1) := by decide +kernel
theorem dX5_takeWindow_35 : decode cX5_takeWindow 35 = .ok (.aload_n 0, 1) := by decide +kernel
theorem dX5_takeWindow_36 : decode cX5_takeWindow 36 = .ok (.getfield 21, 3) := by decide +kernel
theorem dX5_takeWindow_39 : decode cX5_takeWindow 39 = .ok (.getfield 262, 3) := by decide +kernel
theorem dX5_takeWindow_42 : decode cX5_takeWindow 42 = .ok (.ifCond .ne 17, 3) := by decide +kernel
theorem dX5_takeWindow_45 : decode cX5_takeWindow 45 = .ok (.aload_n 0, 1) := by decide +kernel
theorem dX5_takeWindow_46 : decode cX5_takeWindow 46 = .ok (.getfield 49, 3) := by decide +kernel
theorem dX5_takeWindow_49 : decode cX5_takeWindow 49 = .ok (.getfield 226, 3) := by decide +kernel
theorem dX5_takeWindow_52 : decode cX5_takeWindow 52 = .ok (.ifCond .eq 7, 3) := by decide +kernel
theorem dX5_takeWindow_55 : decode cX5_takeWindow 55 = .ok (.iconst 1, 1) := by decide +kernel
theorem dX5_takeWindow_56 : decode cX5_takeWindow 56 = .ok (.goto 4, 3) := by decide +kernel
theorem dX5_takeWindow_59 : decode cX5_takeWindow 59 = .ok (.iconst 0, 1) := by decide +kernel
theorem dX5_takeWindow_60 : decode cX5_takeWindow 60 = .ok (.istore_n 1, 1) := by decide +kernel
theorem dX5_takeWindow_61 : decode cX5_takeWindow 61 = .ok (.aload_n 0, 1) := by decide +kernel
theorem dX5_takeWindow_62 : decode cX5_takeWindow 62 = .ok (.getfield 21, 3) := by decide +kernel
theorem dX5_takeWindow_65 : decode cX5_takeWindow 65 = .ok (.aload_n 0, 1) := by decide +kernel
theorem dX5_takeWindow_66 : decode cX5_takeWindow 66 = .ok (.getfield 49, 3) := by decide +kernel
theorem dX5_takeWindow_69 : decode cX5_takeWindow 69 = .ok (.getfield 226, 3) := by decide +kernel
theorem dX5_takeWindow_72 : decode cX5_takeWindow 72 = .ok (.aload_n 0, 1) := by decide +kernel
theorem dX5_takeWindow_73 : decode cX5_takeWindow 73 = .ok (.getfield 49, 3) := by decide +kernel
theorem dX5_takeWindow_76 : decode cX5_takeWindow 76 = .ok (.getfield 220, 3) := by decide +kernel
theorem dX5_takeWindow_79 : decode cX5_takeWindow 79 = .ok (.aload_n 0, 1) := by decide +kernel
theorem dX5_takeWindow_80 : decode cX5_takeWindow 80 = .ok (.getfield 49, 3) := by decide +kernel
theorem dX5_takeWindow_83 : decode cX5_takeWindow 83 = .ok (.getfield 223, 3) := by decide +kernel
theorem dX5_takeWindow_86 : decode cX5_takeWindow 86 = .ok (.invokevirtual 405, 3) := by decide +kernel
theorem dX5_takeWindow_89 : decode cX5_takeWindow 89 = .ok (.iload_n 1, 1) := by decide +kernel
theorem dX5_takeWindow_90 : decode cX5_takeWindow 90 = .ok (.ifCond .eq 29, 3) := by decide +kernel
theorem dX5_takeWindow_93 : decode cX5_takeWindow 93 = .ok (.aload_n 0, 1) := by decide +kernel
theorem dX5_takeWindow_94 : decode cX5_takeWindow 94 = .ok (.getfield 42, 3) := by decide +kernel
theorem dX5_takeWindow_97 : decode cX5_takeWindow 97 = .ok (.iconst 0, 1) := by decide +kernel
theorem dX5_takeWindow_98 : decode cX5_takeWindow 98 = .ok (.putfield 200, 3) := by decide +kernel
theorem dX5_takeWindow_101 : decode cX5_takeWindow 101 = .ok (.aload_n 0, 1) := by decide +kernel
theorem dX5_takeWindow_102 : decode cX5_takeWindow 102 = .ok (.getfield 21, 3) := by decide +kernel
theorem dX5_takeWindow_105 : decode cX5_takeWindow 105 = .ok (.invokevirtual 317, 3) := by decide +kernel
theorem dX5_takeWindow_108 : decode cX5_takeWindow 108 = .ok (.ifCond .ne 11, 3) := by decide +kernel
theorem dX5_takeWindow_111 : decode cX5_takeWindow 111 = .ok (.aload_n 0, 1) := by decide +kernel
theorem dX5_takeWindow_112 : decode cX5_takeWindow 112 = .ok (.getfield 35, 3) := by decide +kernel
theorem dX5_takeWindow_115 : decode cX5_takeWindow 115 = .ok (.iconst 0, 1) := by decide +kernel
theorem dX5_takeWindow_116 : decode cX5_takeWindow 116 = .ok (.putfield 155, 3) := by decide +kernel
theorem dX5_takeWindow_119 : decode cX5_takeWindow 119 = .ok (.iload_n 1, 1) := by decide +kernel
theorem dX5_takeWindow_120 : decode cX5_takeWindow 120 = .ok (.ifCond .ne 13, 3) := by decide +kernel
theorem dX5_takeWindow_123 : decode cX5_takeWindow 123 = .ok (.aload_n 0, 1) := by decide +kernel
theorem dX5_takeWindow_124 : decode cX5_takeWindow 124 = .ok (.getfield 49, 3) := by decide +kernel
theorem dX5_takeWindow_127 : decode cX5_takeWindow 127 = .ok (.getfield 226, 3) := by decide +kernel
theorem dX5_takeWindow_130 : decode cX5_takeWindow 130 = .ok (.ifCond .ne 11, 3) := by decide +kernel
theorem dX5_takeWindow_133 : decode cX5_takeWindow 133 = .ok (.aload_n 0, 1) := by decide +kernel
theorem dX5_takeWindow_134 : decode cX5_takeWindow 134 = .ok (.getfield 35, 3) := by decide +kernel
theorem dX5_takeWindow_137 : decode cX5_takeWindow 137 = .ok (.iconst 0, 1) := by decide +kernel
theorem dX5_takeWindow_138 : decode cX5_takeWindow 138 = .ok (.putfield 270, 3) := by decide +kernel
theorem dX5_takeWindow_141 : decode cX5_takeWindow 141 = .ok (.return_, 1) := by decide +kernel
theorem dX2_lastIsThanked_0 : decode cX2_lastIsThanked 0 = .ok (.aload_n 0, 1) := by decide +kernel
theorem dX2_lastIsThanked_1 : decode cX2_lastIsThanked 1 = .ok (.getfield 41, 3) := by decide +kernel
theorem dX2_lastIsThanked_4 : decode cX2_lastIsThanked 4 = .ok (.ifCond .eq 14, 3) := by decide +kernel
theorem dX2_lastIsThanked_7 : decode cX2_lastIsThanked 7 = .ok (.aload_n 0, 1) := by decide +kernel
theorem dX2_lastIsThanked_8 : decode cX2_lastIsThanked 8 = .ok (.invokevirtual 52, 3) := by decide +kernel
theorem dX2_lastIsThanked_11 : decode cX2_lastIsThanked 11 = .ok (.ifCond .ne 7, 3) := by decide +kernel
theorem dX2_lastIsThanked_14 : decode cX2_lastIsThanked 14 = .ok (.iconst 1, 1) := by decide +kernel
theorem dX2_lastIsThanked_15 : decode cX2_lastIsThanked 15 = .ok (.goto 4, 3) := by decide +kernel
theorem dX2_lastIsThanked_18 : decode cX2_lastIsThanked 18 = .ok (.iconst 0, 1) := by decide +kernel
theorem dX2_lastIsThanked_19 : decode cX2_lastIsThanked 19 = .ok (.ireturn, 1) := by decide +kernel
theorem dX1_store_0 : decode cX1_store 0 = .ok (.aload_n 1, 1) := by decide +kernel
theorem dX1_store_1 : decode cX1_store 1 = .ok (.getfield 48, 3) := by decide +kernel
theorem dX1_store_4 : decode cX1_store 4 = .ok (.aload_n 0, 1) := by decide +kernel
theorem dX1_store_5 : decode cX1_store 5 = .ok (.getfield 25, 3) := by decide +kernel
theorem dX1_store_8 : decode cX1_store 8 = .ok (.isub, 1) := by decide +kernel
theorem dX1_store_9 : decode cX1_store 9 = .ok (.istore_n 2, 1) := by decide +kernel
theorem dX1_store_10 : decode cX1_store 10 = .ok (.iconst 0, 1) := by decide +kernel
theorem dX1_store_11 : decode cX1_store 11 = .ok (.iload_n 2, 1) := by decide +kernel
theorem dX1_store_12 : decode cX1_store 12 = .ok (.ineg, 1) := by decide +kernel
theorem dX1_store_13 : decode cX1_store 13 = .ok (.invokestatic 53, 3) := by decide +kernel
theorem dX1_store_16 : decode cX1_store 16 = .ok (.istore_n 3, 1) := by decide +kernel
theorem dX1_store_17 : decode cX1_store 17 = .ok (.aload_n 1, 1) := by decide +kernel
theorem dX1_store_18 : decode cX1_store 18 = .ok (.getfield 59, 3) := by decide +kernel
theorem dX1_store_21 : decode cX1_store 21 = .ok (.aload_n 0, 1) := by decide +kernel
theorem dX1_store_22 : decode cX1_store 22 = .ok (.invokevirtual 44, 3) := by decide +kernel
theorem dX1_store_25 : decode cX1_store 25 = .ok (.iload_n 2, 1) := by decide +kernel
theorem dX1_store_26 : decode cX1_store 26 = .ok (.isub, 1) := by decide +kernel
theorem dX1_store_27 : decode cX1_store 27 = .ok (.invokestatic 62, 3) := by decide +kernel
theorem dX1_store_30 : decode cX1_store 30 = .ok (.istore 4, 2) := by decide +kernel
theorem dX1_store_32 : decode cX1_store 32 = .ok (.iload_n 3, 1) := by decide +kernel
theorem dX1_store_33 : decode cX1_store 33 = .ok (.istore 5, 2) := by decide +kernel
theorem dX1_store_35 : decode cX1_store 35 = .ok (.iload 5, 2) := by decide +kernel
theorem dX1_store_37 : decode cX1_store 37 = .ok (.iload 4, 2) := by decide +kernel
theorem dX1_store_39 : decode cX1_store 39 = .ok (.if_icmp .ge 51, 3) := by decide +kernel
theorem dX1_store_42 : decode cX1_store 42 = .ok (.aload_n 1, 1) := by decide +kernel
theorem dX1_store_43 : decode cX1_store 43 = .ok (.getfield 48, 3) := by decide +kernel
theorem dX1_store_46 : decode cX1_store 46 = .ok (.iload 5, 2) := by decide +kernel
theorem dX1_store_48 : decode cX1_store 48 = .ok (.iadd, 1) := by decide +kernel
theorem dX1_store_49 : decode cX1_store 49 = .ok (.sipush 2047, 3) := by decide +kernel
theorem dX1_store_52 : decode cX1_store 52 = .ok (.iand, 1) := by decide +kernel
theorem dX1_store_53 : decode cX1_store 53 = .ok (.istore 6, 2) := by decide +kernel
theorem dX1_store_55 : decode cX1_store 55 = .ok (.aload_n 0, 1) := by decide +kernel
theorem dX1_store_56 : decode cX1_store 56 = .ok (.getfield 9, 3) := by decide +kernel
theorem dX1_store_59 : decode cX1_store 59 = .ok (.iload 6, 2) := by decide +kernel
theorem dX1_store_61 : decode cX1_store 61 = .ok (.iaload, 1) := by decide +kernel
theorem dX1_store_62 : decode cX1_store 62 = .ok (.iconst (-1), 1) := by decide +kernel
theorem dX1_store_63 : decode cX1_store 63 = .ok (.if_icmp .ne 21, 3) := by decide +kernel
theorem dX1_store_66 : decode cX1_store 66 = .ok (.aload_n 0, 1) := by decide +kernel
theorem dX1_store_67 : decode cX1_store 67 = .ok (.getfield 9, 3) := by decide +kernel
theorem dX1_store_70 : decode cX1_store 70 = .ok (.iload 6, 2) := by decide +kernel
theorem dX1_store_72 : decode cX1_store 72 = .ok (.aload_n 1, 1) := by decide +kernel
theorem dX1_store_73 : decode cX1_store 73 = .ok (.getfield 65, 3) := by decide +kernel
theorem dX1_store_76 : decode cX1_store 76 = .ok (.iload 5, 2) := by decide +kernel
theorem dX1_store_78 : decode cX1_store 78 = .ok (.baload, 1) := by decide +kernel
theorem dX1_store_79 : decode cX1_store 79 = .ok (.sipush 255, 3) := by decide +kernel
theorem dX1_store_82 : decode cX1_store 82 = .ok (.iand, 1) := by decide +kernel
theorem dX1_store_83 : decode cX1_store 83 = .ok (.iastore, 1) := by decide +kernel
theorem dX1_store_84 : decode cX1_store 84 = .ok (.iinc 5 1, 3) := by decide +kernel
theorem dX1_store_87 : decode cX1_store 87 = .ok (.goto (-52), 3) := by decide +kernel
theorem dX1_store_90 : decode cX1_store 90 = .ok (.return_, 1) := by decide +kernel
theorem dX1_isAtLast_0 : decode cX1_isAtLast 0 = .ok (.aload_n 0, 1) := by decide +kernel
theorem dX1_isAtLast_1 : decode cX1_isAtLast 1 = .ok (.getfield 35, 3) := by decide +kernel
theorem dX1_isAtLast_4 : decode cX1_isAtLast 4 = .ok (.ifCond .eq 18, 3) := by decide +kernel
theorem dX1_isAtLast_7 : decode cX1_isAtLast 7 = .ok (.aload_n 0, 1) := by decide +kernel
theorem dX1_isAtLast_8 : decode cX1_isAtLast 8 = .ok (.getfield 25, 3) := by decide +kernel
theorem dX1_isAtLast_11 : decode cX1_isAtLast 11 = .ok (.aload_n 0, 1) := by decide +kernel
theorem dX1_isAtLast_12 : decode cX1_isAtLast 12 = .ok (.getfield 38, 3) := by decide +kernel
theorem dX1_isAtLast_15 : decode cX1_isAtLast 15 = .ok (.if_icmp .ne 7, 3) := by decide +kernel
theorem dX1_isAtLast_18 : decode cX1_isAtLast 18 = .ok (.iconst 1, 1) := by decide +kernel
theorem dX1_isAtLast_19 : decode cX1_isAtLast 19 = .ok (.goto 4, 3) := by decide +kernel
theorem dX1_isAtLast_22 : decode cX1_isAtLast 22 = .ok (.iconst 0, 1) := by decide +kernel
theorem dX1_isAtLast_23 : decode cX1_isAtLast 23 = .ok (.ireturn, 1) := by decide +kernel
theorem dX1_goOn_0 : decode cX1_goOn 0 = .ok (.aload_n 0, 1) := by decide +kernel
theorem dX1_goOn_1 : decode cX1_goOn 1 = .ok (.getfield 29, 3) := by decide +kernel
theorem dX1_goOn_4 : decode cX1_goOn 4 = .ok (.sipush 2048, 3) := by decide +kernel
theorem dX1_goOn_7 : decode cX1_goOn 7 = .ok (.if_icmp .ge 50, 3) := by decide +kernel
theorem dX1_goOn_10 : decode cX1_goOn 10 = .ok (.aload_n 0, 1) := by decide +kernel
theorem dX1_goOn_11 : decode cX1_goOn 11 = .ok (.invokevirtual 69, 3) := by decide +kernel
theorem dX1_goOn_14 : decode cX1_goOn 14 = .ok (.ifCond .ne 43, 3) := by decide +kernel
theorem dX1_goOn_17 : decode cX1_goOn 17 = .ok (.aload_n 0, 1) := by decide +kernel
theorem dX1_goOn_18 : decode cX1_goOn 18 = .ok (.getfield 9, 3) := by decide +kernel
theorem dX1_goOn_21 : decode cX1_goOn 21 = .ok (.aload_n 0, 1) := by decide +kernel
theorem dX1_goOn_22 : decode cX1_goOn 22 = .ok (.getfield 25, 3) := by decide +kernel
theorem dX1_goOn_25 : decode cX1_goOn 25 = .ok (.sipush 2047, 3) := by decide +kernel
theorem dX1_goOn_28 : decode cX1_goOn 28 = .ok (.iand, 1) := by decide +kernel
theorem dX1_goOn_29 : decode cX1_goOn 29 = .ok (.iaload, 1) := by decide +kernel
theorem dX1_goOn_30 : decode cX1_goOn 30 = .ok (.iconst (-1), 1) := by decide +kernel
theorem dX1_goOn_31 : decode cX1_goOn 31 = .ok (.if_icmp .eq 26, 3) := by decide +kernel
theorem dX1_goOn_34 : decode cX1_goOn 34 = .ok (.aload_n 0, 1) := by decide +kernel
theorem dX1_goOn_35 : decode cX1_goOn 35 = .ok (.dup, 1) := by decide +kernel
theorem dX1_goOn_36 : decode cX1_goOn 36 = .ok (.getfield 25, 3) := by decide +kernel
theorem dX1_goOn_39 : decode cX1_goOn 39 = .ok (.iconst 1, 1) := by decide +kernel
theorem dX1_goOn_40 : decode cX1_goOn 40 = .ok (.iadd, 1) := by decide +kernel
theorem dX1_goOn_41 : decode cX1_goOn 41 = .ok (.putfield 25, 3) := by decide +kernel
theorem dX1_goOn_44 : decode cX1_goOn 44 = .ok (.aload_n 0, 1) := by decide +kernel
theorem dX1_goOn_45 : decode cX1_goOn 45 = .ok (.dup, 1) := by decide +kernel
theorem dX1_goOn_46 : decode cX1_goOn 46 = .ok (.getfield 29, 3) := by decide +kernel
theorem dX1_goOn_49 : decode cX1_goOn 49 = .ok (.iconst 1, 1) := by decide +kernel
theorem dX1_goOn_50 : decode cX1_goOn 50 = .ok (.iadd, 1) := by decide +kernel
theorem dX1_goOn_51 : decode cX1_goOn 51 = .ok (.putfield 29, 3) := by decide +kernel
theorem dX1_goOn_54 : decode cX1_goOn 54 = .ok (.goto (-54), 3) := by decide +kernel
theorem dX1_goOn_57 : decode cX1_goOn 57 = .ok (.aload_n 0, 1) := by decide +kernel
theorem dX1_goOn_58 : decode cX1_goOn 58 = .ok (.invokevirtual 69, 3) := by decide +kernel
theorem dX1_goOn_61 : decode cX1_goOn 61 = .ok (.ifCond .eq 18, 3) := by decide +kernel
theorem dX1_goOn_64 : decode cX1_goOn 64 = .ok (.aload_n 0, 1) := by decide +kernel
theorem dX1_goOn_65 : decode cX1_goOn 65 = .ok (.dup, 1) := by decide +kernel
theorem dX1_goOn_66 : decode cX1_goOn 66 = .ok (.getfield 25, 3) := by decide +kernel
theorem dX1_goOn_69 : decode cX1_goOn 69 = .ok (.iconst 1, 1) := by decide +kernel
theorem dX1_goOn_70 : decode cX1_goOn 70 = .ok (.iadd, 1) := by decide +kernel
theorem dX1_goOn_71 : decode cX1_goOn 71 = .ok (.putfield 25, 3) := by decide +kernel
theorem dX1_goOn_74 : decode cX1_goOn 74 = .ok (.aload_n 0, 1) := by decide +kernel
theorem dX1_goOn_75 : decode cX1_goOn 75 = .ok (.iconst 1, 1) := by decide +kernel
theorem dX1_goOn_76 : decode cX1_goOn 76 = .ok (.putfield 41, 3) := by decide +kernel
theorem dX1_goOn_79 : decode cX1_goOn 79 = .ok (.return_, 1) := by decide +kernel
theorem dX5_peerLeaves_0 : decode cX5_peerLeaves 0 = .ok (.aload_n 0, 1) := by decide +kernel
theorem dX5_peerLeaves_1 : decode cX5_peerLeaves 1 = .ok (.getfield 60, 3) := by decide +kernel
theorem dX5_peerLeaves_4 : decode cX5_peerLeaves 4 = .ok (.iconst 4, 1) := by decide +kernel
theorem dX5_peerLeaves_5 : decode cX5_peerLeaves 5 = .ok (.if_icmp .ne 12, 3) := by decide +kernel
theorem dX5_peerLeaves_8 : decode cX5_peerLeaves 8 = .ok (.aload_n 0, 1) := by decide +kernel
theorem dX5_peerLeaves_9 : decode cX5_peerLeaves 9 = .ok (.bipush 7, 2) := by decide +kernel
theorem dX5_peerLeaves_11 : decode cX5_peerLeaves 11 = .ok (.putfield 60, 3) := by decide +kernel
