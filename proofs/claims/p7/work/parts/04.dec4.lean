/-! written by program (wip/gen) -/
theorem dX5_peerLeaves_14 : decode cX5_peerLeaves 14 = .ok (.goto 26, 3) := by decide +kernel
theorem dX5_peerLeaves_17 : decode cX5_peerLeaves 17 = .ok (.aload_n 0, 1) := by decide +kernel
theorem dX5_peerLeaves_18 : decode cX5_peerLeaves 18 = .ok (.getfield 60, 3) := by decide +kernel
theorem dX5_peerLeaves_21 : decode cX5_peerLeaves 21 = .ok (.iconst 5, 1) := by decide +kernel
theorem dX5_peerLeaves_22 : decode cX5_peerLeaves 22 = .ok (.if_icmp .ne 12, 3) := by decide +kernel
theorem dX5_peerLeaves_25 : decode cX5_peerLeaves 25 = .ok (.aload_n 0, 1) := by decide +kernel
theorem dX5_peerLeaves_26 : decode cX5_peerLeaves 26 = .ok (.bipush 8, 2) := by decide +kernel
theorem dX5_peerLeaves_28 : decode cX5_peerLeaves 28 = .ok (.putfield 60, 3) := by decide +kernel
theorem dX5_peerLeaves_31 : decode cX5_peerLeaves 31 = .ok (.goto 9, 3) := by decide +kernel
theorem dX5_peerLeaves_34 : decode cX5_peerLeaves 34 = .ok (.aload_n 0, 1) := by decide +kernel
theorem dX5_peerLeaves_35 : decode cX5_peerLeaves 35 = .ok (.bipush 10, 2) := by decide +kernel
theorem dX5_peerLeaves_37 : decode cX5_peerLeaves 37 = .ok (.invokevirtual 132, 3) := by decide +kernel
theorem dX5_peerLeaves_40 : decode cX5_peerLeaves 40 = .ok (.return_, 1) := by decide +kernel
theorem dX1_noteLast_0 : decode cX1_noteLast 0 = .ok (.iload_n 1, 1) := by decide +kernel
theorem dX1_noteLast_1 : decode cX1_noteLast 1 = .ok (.aload_n 0, 1) := by decide +kernel
theorem dX1_noteLast_2 : decode cX1_noteLast 2 = .ok (.getfield 25, 3) := by decide +kernel
theorem dX1_noteLast_5 : decode cX1_noteLast 5 = .ok (.isub, 1) := by decide +kernel
theorem dX1_noteLast_6 : decode cX1_noteLast 6 = .ok (.istore_n 2, 1) := by decide +kernel
theorem dX1_noteLast_7 : decode cX1_noteLast 7 = .ok (.aload_n 0, 1) := by decide +kernel
theorem dX1_noteLast_8 : decode cX1_noteLast 8 = .ok (.getfield 35, 3) := by decide +kernel
theorem dX1_noteLast_11 : decode cX1_noteLast 11 = .ok (.ifCond .ne 25, 3) := by decide +kernel
theorem dX1_noteLast_14 : decode cX1_noteLast 14 = .ok (.iload_n 2, 1) := by decide +kernel
theorem dX1_noteLast_15 : decode cX1_noteLast 15 = .ok (.ifCond .lt 21, 3) := by decide +kernel
theorem dX1_noteLast_18 : decode cX1_noteLast 18 = .ok (.iload_n 2, 1) := by decide +kernel
theorem dX1_noteLast_19 : decode cX1_noteLast 19 = .ok (.aload_n 0, 1) := by decide +kernel
theorem dX1_noteLast_20 : decode cX1_noteLast 20 = .ok (.invokevirtual 44, 3) := by decide +kernel
theorem dX1_noteLast_23 : decode cX1_noteLast 23 = .ok (.if_icmp .ge 13, 3) := by decide +kernel
theorem dX1_noteLast_26 : decode cX1_noteLast 26 = .ok (.aload_n 0, 1) := by decide +kernel
theorem dX1_noteLast_27 : decode cX1_noteLast 27 = .ok (.iconst 1, 1) := by decide +kernel
theorem dX1_noteLast_28 : decode cX1_noteLast 28 = .ok (.putfield 35, 3) := by decide +kernel
theorem dX1_noteLast_31 : decode cX1_noteLast 31 = .ok (.aload_n 0, 1) := by decide +kernel
theorem dX1_noteLast_32 : decode cX1_noteLast 32 = .ok (.iload_n 1, 1) := by decide +kernel
theorem dX1_noteLast_33 : decode cX1_noteLast 33 = .ok (.putfield 38, 3) := by decide +kernel
theorem dX1_noteLast_36 : decode cX1_noteLast 36 = .ok (.return_, 1) := by decide +kernel
theorem dX5_takeBytes_0 : decode cX5_takeBytes 0 = .ok (.aload_n 0, 1) := by decide +kernel
theorem dX5_takeBytes_1 : decode cX5_takeBytes 1 = .ok (.getfield 49, 3) := by decide +kernel
theorem dX5_takeBytes_4 : decode cX5_takeBytes 4 = .ok (.iconst 2, 1) := by decide +kernel
theorem dX5_takeBytes_5 : decode cX5_takeBytes 5 = .ok (.invokevirtual 338, 3) := by decide +kernel
theorem dX5_takeBytes_8 : decode cX5_takeBytes 8 = .ok (.istore_n 1, 1) := by decide +kernel
theorem dX5_takeBytes_9 : decode cX5_takeBytes 9 = .ok (.aload_n 0, 1) := by decide +kernel
theorem dX5_takeBytes_10 : decode cX5_takeBytes 10 = .ok (.invokevirtual 308, 3) := by decide +kernel
theorem dX5_takeBytes_13 : decode cX5_takeBytes 13 = .ok (.ifCond .eq 61, 3) := by decide +kernel
theorem dX5_takeBytes_16 : decode cX5_takeBytes 16 = .ok (.aload_n 0, 1) := by decide +kernel
theorem dX5_takeBytes_17 : decode cX5_takeBytes 17 = .ok (.getfield 28, 3) := by decide +kernel
theorem dX5_takeBytes_20 : decode cX5_takeBytes 20 = .ok (.aload_n 0, 1) := by decide +kernel
theorem dX5_takeBytes_21 : decode cX5_takeBytes 21 = .ok (.getfield 49, 3) := by decide +kernel
theorem dX5_takeBytes_24 : decode cX5_takeBytes 24 = .ok (.invokevirtual 433, 3) := by decide +kernel
theorem dX5_takeBytes_27 : decode cX5_takeBytes 27 = .ok (.iload_n 1, 1) := by decide +kernel
theorem dX5_takeBytes_28 : decode cX5_takeBytes 28 = .ok (.ifCond .eq 25, 3) := by decide +kernel
theorem dX5_takeBytes_31 : decode cX5_takeBytes 31 = .ok (.aload_n 0, 1) := by decide +kernel
theorem dX5_takeBytes_32 : decode cX5_takeBytes 32 = .ok (.getfield 28, 3) := by decide +kernel
theorem dX5_takeBytes_35 : decode cX5_takeBytes 35 = .ok (.aload_n 0, 1) := by decide +kernel
theorem dX5_takeBytes_36 : decode cX5_takeBytes 36 = .ok (.getfield 49, 3) := by decide +kernel
theorem dX5_takeBytes_39 : decode cX5_takeBytes 39 = .ok (.getfield 220, 3) := by decide +kernel
theorem dX5_takeBytes_42 : decode cX5_takeBytes 42 = .ok (.aload_n 0, 1) := by decide +kernel
theorem dX5_takeBytes_43 : decode cX5_takeBytes 43 = .ok (.getfield 49, 3) := by decide +kernel
theorem dX5_takeBytes_46 : decode cX5_takeBytes 46 = .ok (.getfield 230, 3) := by decide +kernel
theorem dX5_takeBytes_49 : decode cX5_takeBytes 49 = .ok (.iadd, 1) := by decide +kernel
theorem dX5_takeBytes_50 : decode cX5_takeBytes 50 = .ok (.invokevirtual 437, 3) := by decide +kernel
theorem dX5_takeBytes_53 : decode cX5_takeBytes 53 = .ok (.aload_n 0, 1) := by decide +kernel
theorem dX5_takeBytes_54 : decode cX5_takeBytes 54 = .ok (.getfield 28, 3) := by decide +kernel
theorem dX5_takeBytes_57 : decode cX5_takeBytes 57 = .ok (.invokevirtual 440, 3) := by decide +kernel
theorem dX5_takeBytes_60 : decode cX5_takeBytes 60 = .ok (.aload_n 0, 1) := by decide +kernel
theorem dX5_takeBytes_61 : decode cX5_takeBytes 61 = .ok (.getfield 28, 3) := by decide +kernel
theorem dX5_takeBytes_64 : decode cX5_takeBytes 64 = .ok (.getfield 125, 3) := by decide +kernel
theorem dX5_takeBytes_67 : decode cX5_takeBytes 67 = .ok (.ifCond .eq 7, 3) := by decide +kernel
theorem dX5_takeBytes_70 : decode cX5_takeBytes 70 = .ok (.aload_n 0, 1) := by decide +kernel
theorem dX5_takeBytes_71 : decode cX5_takeBytes 71 = .ok (.invokevirtual 443, 3) := by decide +kernel
theorem dX5_takeBytes_74 : decode cX5_takeBytes 74 = .ok (.iload_n 1, 1) := by decide +kernel
theorem dX5_takeBytes_75 : decode cX5_takeBytes 75 = .ok (.ifCond .ne 13, 3) := by decide +kernel
theorem dX5_takeBytes_78 : decode cX5_takeBytes 78 = .ok (.aload_n 0, 1) := by decide +kernel
theorem dX5_takeBytes_79 : decode cX5_takeBytes 79 = .ok (.getfield 49, 3) := by decide +kernel
theorem dX5_takeBytes_82 : decode cX5_takeBytes 82 = .ok (.getfield 230, 3) := by decide +kernel
theorem dX5_takeBytes_85 : decode cX5_takeBytes 85 = .ok (.ifCond .le 11, 3) := by decide +kernel
theorem dX5_takeBytes_88 : decode cX5_takeBytes 88 = .ok (.aload_n 0, 1) := by decide +kernel
theorem dX5_takeBytes_89 : decode cX5_takeBytes 89 = .ok (.getfield 42, 3) := by decide +kernel
theorem dX5_takeBytes_92 : decode cX5_takeBytes 92 = .ok (.iconst 1, 1) := by decide +kernel
theorem dX5_takeBytes_93 : decode cX5_takeBytes 93 = .ok (.putfield 206, 3) := by decide +kernel
theorem dX5_takeBytes_96 : decode cX5_takeBytes 96 = .ok (.return_, 1) := by decide +kernel
theorem dX5_leave_0 : decode cX5_leave 0 = .ok (.aload_n 0, 1) := by decide +kernel
theorem dX5_leave_1 : decode cX5_leave 1 = .ok (.getfield 60, 3) := by decide +kernel
theorem dX5_leave_4 : decode cX5_leave 4 = .ok (.iconst 5, 1) := by decide +kernel
theorem dX5_leave_5 : decode cX5_leave 5 = .ok (.if_icmp .ne 12, 3) := by decide +kernel
theorem dX5_leave_8 : decode cX5_leave 8 = .ok (.aload_n 0, 1) := by decide +kernel
theorem dX5_leave_9 : decode cX5_leave 9 = .ok (.bipush 6, 2) := by decide +kernel
theorem dX5_leave_11 : decode cX5_leave 11 = .ok (.putfield 60, 3) := by decide +kernel
theorem dX5_leave_14 : decode cX5_leave 14 = .ok (.goto 35, 3) := by decide +kernel
theorem dX5_leave_17 : decode cX5_leave 17 = .ok (.aload_n 0, 1) := by decide +kernel
theorem dX5_leave_18 : decode cX5_leave 18 = .ok (.getfield 60, 3) := by decide +kernel
theorem dX5_leave_21 : decode cX5_leave 21 = .ok (.bipush 8, 2) := by decide +kernel
theorem dX5_leave_23 : decode cX5_leave 23 = .ok (.if_icmp .ne 12, 3) := by decide +kernel
theorem dX5_leave_26 : decode cX5_leave 26 = .ok (.aload_n 0, 1) := by decide +kernel
theorem dX5_leave_27 : decode cX5_leave 27 = .ok (.bipush 10, 2) := by decide +kernel
theorem dX5_leave_29 : decode cX5_leave 29 = .ok (.invokevirtual 132, 3) := by decide +kernel
theorem dX5_leave_32 : decode cX5_leave 32 = .ok (.goto 17, 3) := by decide +kernel
theorem dX5_leave_35 : decode cX5_leave 35 = .ok (.aload_n 0, 1) := by decide +kernel
theorem dX5_leave_36 : decode cX5_leave 36 = .ok (.getfield 60, 3) := by decide +kernel
theorem dX5_leave_39 : decode cX5_leave 39 = .ok (.bipush 9, 2) := by decide +kernel
theorem dX5_leave_41 : decode cX5_leave 41 = .ok (.if_icmp .ne 8, 3) := by decide +kernel
theorem dX5_leave_44 : decode cX5_leave 44 = .ok (.aload_n 0, 1) := by decide +kernel
theorem dX5_leave_45 : decode cX5_leave 45 = .ok (.iconst 0, 1) := by decide +kernel
theorem dX5_leave_46 : decode cX5_leave 46 = .ok (.invokevirtual 132, 3) := by decide +kernel
theorem dX5_leave_49 : decode cX5_leave 49 = .ok (.return_, 1) := by decide +kernel
theorem dX2_thank_0 : decode cX2_thank 0 = .ok (.aload_n 0, 1) := by decide +kernel
theorem dX2_thank_1 : decode cX2_thank 1 = .ok (.getfield 25, 3) := by decide +kernel
theorem dX2_thank_4 : decode cX2_thank 4 = .ok (.iload_n 1, 1) := by decide +kernel
theorem dX2_thank_5 : decode cX2_thank 5 = .ok (.aload_n 0, 1) := by decide +kernel
theorem dX2_thank_6 : decode cX2_thank 6 = .ok (.getfield 31, 3) := by decide +kernel
theorem dX2_thank_9 : decode cX2_thank 9 = .ok (.isub, 1) := by decide +kernel
theorem dX2_thank_10 : decode cX2_thank 10 = .ok (.invokestatic 62, 3) := by decide +kernel
theorem dX2_thank_13 : decode cX2_thank 13 = .ok (.istore_n 2, 1) := by decide +kernel
theorem dX2_thank_14 : decode cX2_thank 14 = .ok (.aload_n 0, 1) := by decide +kernel
theorem dX2_thank_15 : decode cX2_thank 15 = .ok (.aload_n 0, 1) := by decide +kernel
theorem dX2_thank_16 : decode cX2_thank 16 = .ok (.getfield 19, 3) := by decide +kernel
theorem dX2_thank_19 : decode cX2_thank 19 = .ok (.iload_n 2, 1) := by decide +kernel
theorem dX2_thank_20 : decode cX2_thank 20 = .ok (.iadd, 1) := by decide +kernel
theorem dX2_thank_21 : decode cX2_thank 21 = .ok (.sipush 2047, 3) := by decide +kernel
theorem dX2_thank_24 : decode cX2_thank 24 = .ok (.iand, 1) := by decide +kernel
theorem dX2_thank_25 : decode cX2_thank 25 = .ok (.putfield 19, 3) := by decide +kernel
theorem dX2_thank_28 : decode cX2_thank 28 = .ok (.aload_n 0, 1) := by decide +kernel
theorem dX2_thank_29 : decode cX2_thank 29 = .ok (.dup, 1) := by decide +kernel
theorem dX2_thank_30 : decode cX2_thank 30 = .ok (.getfield 22, 3) := by decide +kernel
theorem dX2_thank_33 : decode cX2_thank 33 = .ok (.iload_n 2, 1) := by decide +kernel
theorem dX2_thank_34 : decode cX2_thank 34 = .ok (.isub, 1) := by decide +kernel
theorem dX2_thank_35 : decode cX2_thank 35 = .ok (.putfield 22, 3) := by decide +kernel
theorem dX2_thank_38 : decode cX2_thank 38 = .ok (.aload_n 0, 1) := by decide +kernel
theorem dX2_thank_39 : decode cX2_thank 39 = .ok (.dup, 1) := by decide +kernel
theorem dX2_thank_40 : decode cX2_thank 40 = .ok (.getfield 25, 3) := by decide +kernel
theorem dX2_thank_43 : decode cX2_thank 43 = .ok (.iload_n 2, 1) := by decide +kernel
theorem dX2_thank_44 : decode cX2_thank 44 = .ok (.isub, 1) := by decide +kernel
theorem dX2_thank_45 : decode cX2_thank 45 = .ok (.putfield 25, 3) := by decide +kernel
theorem dX2_thank_48 : decode cX2_thank 48 = .ok (.aload_n 0, 1) := by decide +kernel
theorem dX2_thank_49 : decode cX2_thank 49 = .ok (.iload_n 1, 1) := by decide +kernel
theorem dX2_thank_50 : decode cX2_thank 50 = .ok (.putfield 31, 3) := by decide +kernel
theorem dX2_thank_53 : decode cX2_thank 53 = .ok (.return_, 1) := by decide +kernel
theorem dX4_learn_0 : decode cX4_learn 0 = .ok (.aload_n 0, 1) := by decide +kernel
theorem dX4_learn_1 : decode cX4_learn 1 = .ok (.getfield 23, 3) := by decide +kernel
theorem dX4_learn_4 : decode cX4_learn 4 = .ok (.ifCond .eq 46, 3) := by decide +kernel
theorem dX4_learn_7 : decode cX4_learn 7 = .ok (.iload_n 1, 1) := by decide +kernel
theorem dX4_learn_8 : decode cX4_learn 8 = .ok (.aload_n 0, 1) := by decide +kernel
theorem dX4_learn_9 : decode cX4_learn 9 = .ok (.getfield 26, 3) := by decide +kernel
theorem dX4_learn_12 : decode cX4_learn 12 = .ok (.bipush 8, 2) := by decide +kernel
theorem dX4_learn_14 : decode cX4_learn 14 = .ok (.idiv, 1) := by decide +kernel
theorem dX4_learn_15 : decode cX4_learn 15 = .ok (.isub, 1) := by decide +kernel
theorem dX4_learn_16 : decode cX4_learn 16 = .ok (.istore_n 2, 1) := by decide +kernel
theorem dX4_learn_17 : decode cX4_learn 17 = .ok (.aload_n 0, 1) := by decide +kernel
theorem dX4_learn_18 : decode cX4_learn 18 = .ok (.dup, 1) := by decide +kernel
theorem dX4_learn_19 : decode cX4_learn 19 = .ok (.getfield 26, 3) := by decide +kernel
theorem dX4_learn_22 : decode cX4_learn 22 = .ok (.iload_n 2, 1) := by decide +kernel
theorem dX4_learn_23 : decode cX4_learn 23 = .ok (.iadd, 1) := by decide +kernel
theorem dX4_learn_24 : decode cX4_learn 24 = .ok (.putfield 26, 3) := by decide +kernel
theorem dX4_learn_27 : decode cX4_learn 27 = .ok (.aload_n 0, 1) := by decide +kernel
theorem dX4_learn_28 : decode cX4_learn 28 = .ok (.dup, 1) := by decide +kernel
theorem dX4_learn_29 : decode cX4_learn 29 = .ok (.getfield 29, 3) := by decide +kernel
theorem dX4_learn_32 : decode cX4_learn 32 = .ok (.iload_n 2, 1) := by decide +kernel
theorem dX4_learn_33 : decode cX4_learn 33 = .ok (.invokestatic 63, 3) := by decide +kernel
theorem dX4_learn_36 : decode cX4_learn 36 = .ok (.aload_n 0, 1) := by decide +kernel
theorem dX4_learn_37 : decode cX4_learn 37 = .ok (.getfield 29, 3) := by decide +kernel
theorem dX4_learn_40 : decode cX4_learn 40 = .ok (.iconst 4, 1) := by decide +kernel
theorem dX4_learn_41 : decode cX4_learn 41 = .ok (.idiv, 1) := by decide +kernel
theorem dX4_learn_42 : decode cX4_learn 42 = .ok (.isub, 1) := by decide +kernel
theorem dX4_learn_43 : decode cX4_learn 43 = .ok (.iadd, 1) := by decide +kernel
theorem dX4_learn_44 : decode cX4_learn 44 = .ok (.putfield 29, 3) := by decide +kernel
theorem dX4_learn_47 : decode cX4_learn 47 = .ok (.goto 23, 3) := by decide +kernel
theorem dX4_learn_50 : decode cX4_learn 50 = .ok (.aload_n 0, 1) := by decide +kernel
theorem dX4_learn_51 : decode cX4_learn 51 = .ok (.iconst 1, 1) := by decide +kernel
theorem dX4_learn_52 : decode cX4_learn 52 = .ok (.putfield 23, 3) := by decide +kernel
theorem dX4_learn_55 : decode cX4_learn 55 = .ok (.aload_n 0, 1) := by decide +kernel
theorem dX4_learn_56 : decode cX4_learn 56 = .ok (.bipush 8, 2) := by decide +kernel
theorem dX4_learn_58 : decode cX4_learn 58 = .ok (.iload_n 1, 1) := by decide +kernel
theorem dX4_learn_59 : decode cX4_learn 59 = .ok (.imul, 1) := by decide +kernel
theorem dX4_learn_60 : decode cX4_learn 60 = .ok (.putfield 26, 3) := by decide +kernel
theorem dX4_learn_63 : decode cX4_learn 63 = .ok (.aload_n 0, 1) := by decide +kernel
theorem dX4_learn_64 : decode cX4_learn 64 = .ok (.iconst 2, 1) := by decide +kernel
theorem dX4_learn_65 : decode cX4_learn 65 = .ok (.iload_n 1, 1) := by decide +kernel
theorem dX4_learn_66 : decode cX4_learn 66 = .ok (.imul, 1) := by decide +kernel
theorem dX4_learn_67 : decode cX4_learn 67 = .ok (.putfield 29, 3) := by decide +kernel
theorem dX4_learn_70 : decode cX4_learn 70 = .ok (.aload_n 0, 1) := by decide +kernel
theorem dX4_learn_71 : decode cX4_learn 71 = .ok (.getfield 26, 3) := by decide +kernel
theorem dX4_learn_74 : decode cX4_learn 74 = .ok (.bipush 8, 2) := by decide +kernel
theorem dX4_learn_76 : decode cX4_learn 76 = .ok (.idiv, 1) := by decide +kernel
theorem dX4_learn_77 : decode cX4_learn 77 = .ok (.aload_n 0, 1) := by decide +kernel
theorem dX4_learn_78 : decode cX4_learn 78 = .ok (.getfield 29, 3) := by decide +kernel
theorem dX4_learn_81 : decode cX4_learn 81 = .ok (.iconst 1, 1) := by decide +kernel
theorem dX4_learn_82 : decode cX4_learn 82 = .ok (.invokestatic 67, 3) := by decide +kernel
theorem dX4_learn_85 : decode cX4_learn 85 = .ok (.iadd, 1) := by decide +kernel
theorem dX4_learn_86 : decode cX4_learn 86 = .ok (.istore_n 2, 1) := by decide +kernel
theorem dX4_learn_87 : decode cX4_learn 87 = .ok (.aload_n 0, 1) := by decide +kernel
theorem dX4_learn_88 : decode cX4_learn 88 = .ok (.bipush 20, 2) := by decide +kernel
theorem dX4_learn_90 : decode cX4_learn 90 = .ok (.iload_n 2, 1) := by decide +kernel
theorem dX4_learn_91 : decode cX4_learn 91 = .ok (.sipush 1200, 3) := by decide +kernel
theorem dX4_learn_94 : decode cX4_learn 94 = .ok (.invokestatic 47, 3) := by decide +kernel
theorem dX4_learn_97 : decode cX4_learn 97 = .ok (.invokestatic 67, 3) := by decide +kernel
theorem dX4_learn_100 : decode cX4_learn 100 = .ok (.putfield 9, 3) := by decide +kernel
theorem dX4_learn_103 : decode cX4_learn 103 = .ok (.return_, 1) := by decide +kernel
theorem dX4_endMeasure_0 : decode cX4_endMeasure 0 = .ok (.aload_n 0, 1) := by decide +kernel
theorem dX4_endMeasure_1 : decode cX4_endMeasure 1 = .ok (.getfield 32, 3) := by decide +kernel
theorem dX4_endMeasure_4 : decode cX4_endMeasure 4 = .ok (.ifCond .eq 32, 3) := by decide +kernel
theorem dX4_endMeasure_7 : decode cX4_endMeasure 7 = .ok (.aload_n 0, 1) := by decide +kernel
theorem dX4_endMeasure_8 : decode cX4_endMeasure 8 = .ok (.getfield 35, 3) := by decide +kernel
theorem dX4_endMeasure_11 : decode cX4_endMeasure 11 = .ok (.iload_n 1, 1) := by decide +kernel
theorem dX4_endMeasure_12 : decode cX4_endMeasure 12 = .ok (.invokestatic 53, 3) := by decide +kernel
theorem dX4_endMeasure_15 : decode cX4_endMeasure 15 = .ok (.ifCond .eq 21, 3) := by decide +kernel
theorem dX4_endMeasure_18 : decode cX4_endMeasure 18 = .ok (.aload_n 0, 1) := by decide +kernel
theorem dX4_endMeasure_19 : decode cX4_endMeasure 19 = .ok (.iconst 0, 1) := by decide +kernel
theorem dX4_endMeasure_20 : decode cX4_endMeasure 20 = .ok (.putfield 32, 3) := by decide +kernel
theorem dX4_endMeasure_23 : decode cX4_endMeasure 23 = .ok (.aload_n 0, 1) := by decide +kernel
theorem dX4_endMeasure_24 : decode cX4_endMeasure 24 = .ok (.aload_n 0, 1) := by decide +kernel
theorem dX4_endMeasure_25 : decode cX4_endMeasure 25 = .ok (.getfield 41, 3) := by decide +kernel
theorem dX4_endMeasure_28 : decode cX4_endMeasure 28 = .ok (.aload_n 0, 1) := by decide +kernel
theorem dX4_endMeasure_29 : decode cX4_endMeasure 29 = .ok (.getfield 38, 3) := by decide +kernel
theorem dX4_endMeasure_32 : decode cX4_endMeasure 32 = .ok (.isub, 1) := by decide +kernel
theorem dX4_endMeasure_33 : decode cX4_endMeasure 33 = .ok (.invokevirtual 59, 3) := by decide +kernel
theorem dX4_endMeasure_36 : decode cX4_endMeasure 36 = .ok (.return_, 1) := by decide +kernel
theorem dX5_takeThanked_0 : decode cX5_takeThanked 0 = .ok (.aload_n 0, 1) := by decide +kernel
theorem dX5_takeThanked_1 : decode cX5_takeThanked 1 = .ok (.getfield 21, 3) := by decide +kernel
theorem dX5_takeThanked_4 : decode cX5_takeThanked 4 = .ok (.aload_n 0, 1) := by decide +kernel
theorem dX5_takeThanked_5 : decode cX5_takeThanked 5 = .ok (.getfield 49, 3) := by decide +kernel
theorem dX5_takeThanked_8 : decode cX5_takeThanked 8 = .ok (.getfield 223, 3) := by decide +kernel
theorem dX5_takeThanked_11 : decode cX5_takeThanked 11 = .ok (.invokevirtual 423, 3) := by decide +kernel
theorem dX5_takeThanked_14 : decode cX5_takeThanked 14 = .ok (.aload_n 0, 1) := by decide +kernel
theorem dX5_takeThanked_15 : decode cX5_takeThanked 15 = .ok (.getfield 35, 3) := by decide +kernel
theorem dX5_takeThanked_18 : decode cX5_takeThanked 18 = .ok (.aload_n 0, 1) := by decide +kernel
theorem dX5_takeThanked_19 : decode cX5_takeThanked 19 = .ok (.getfield 49, 3) := by decide +kernel
theorem dX5_takeThanked_22 : decode cX5_takeThanked 22 = .ok (.getfield 223, 3) := by decide +kernel
theorem dX5_takeThanked_25 : decode cX5_takeThanked 25 = .ok (.invokevirtual 426, 3) := by decide +kernel
theorem dX5_takeThanked_28 : decode cX5_takeThanked 28 = .ok (.aload_n 0, 1) := by decide +kernel
theorem dX5_takeThanked_29 : decode cX5_takeThanked 29 = .ok (.getfield 35, 3) := by decide +kernel
theorem dX5_takeThanked_32 : decode cX5_takeThanked 32 = .ok (.iconst 0, 1) := by decide +kernel
theorem dX5_takeThanked_33 : decode cX5_takeThanked 33 = .ok (.putfield 270, 3) := by decide +kernel
theorem dX5_takeThanked_36 : decode cX5_takeThanked 36 = .ok (.aload_n 0, 1) := by decide +kernel
theorem dX5_takeThanked_37 : decode cX5_takeThanked 37 = .ok (.getfield 35, 3) := by decide +kernel
theorem dX5_takeThanked_40 : decode cX5_takeThanked 40 = .ok (.iconst 0, 1) := by decide +kernel
theorem dX5_takeThanked_41 : decode cX5_takeThanked 41 = .ok (.putfield 155, 3) := by decide +kernel
theorem dX5_takeThanked_44 : decode cX5_takeThanked 44 = .ok (.aload_n 0, 1) := by decide +kernel
theorem dX5_takeThanked_45 : decode cX5_takeThanked 45 = .ok (.getfield 21, 3) := by decide +kernel
theorem dX5_takeThanked_48 : decode cX5_takeThanked 48 = .ok (.invokevirtual 317, 3) := by decide +kernel
theorem dX5_takeThanked_51 : decode cX5_takeThanked 51 = .ok (.ifCond .eq 10, 3) := by decide +kernel
theorem dX5_takeThanked_54 : decode cX5_takeThanked 54 = .ok (.aload_n 0, 1) := by decide +kernel
theorem dX5_takeThanked_55 : decode cX5_takeThanked 55 = .ok (.getfield 35, 3) := by decide +kernel
theorem dX5_takeThanked_58 : decode cX5_takeThanked 58 = .ok (.invokevirtual 323, 3) := by decide +kernel
theorem dX5_takeThanked_61 : decode cX5_takeThanked 61 = .ok (.aload_n 0, 1) := by decide +kernel
theorem dX5_takeThanked_62 : decode cX5_takeThanked 62 = .ok (.getfield 42, 3) := by decide +kernel
theorem dX5_takeThanked_65 : decode cX5_takeThanked 65 = .ok (.iconst 0, 1) := by decide +kernel
theorem dX5_takeThanked_66 : decode cX5_takeThanked 66 = .ok (.putfield 179, 3) := by decide +kernel
theorem dX5_takeThanked_69 : decode cX5_takeThanked 69 = .ok (.return_, 1) := by decide +kernel
theorem dX5_answerWithReset_0 : decode cX5_answerWithReset 0 = .ok (.aload_n 0, 1) := by decide +kernel
theorem dX5_answerWithReset_1 : decode cX5_answerWithReset 1 = .ok (.getfield 49, 3) := by decide +kernel
theorem dX5_answerWithReset_4 : decode cX5_answerWithReset 4 = .ok (.iconst 4, 1) := by decide +kernel
theorem dX5_answerWithReset_5 : decode cX5_answerWithReset 5 = .ok (.invokevirtual 338, 3) := by decide +kernel
theorem dX5_answerWithReset_8 : decode cX5_answerWithReset 8 = .ok (.ifCond .eq 4, 3) := by decide +kernel
theorem dX5_answerWithReset_11 : decode cX5_answerWithReset 11 = .ok (.return_, 1) := by decide +kernel
theorem dX5_answerWithReset_12 : decode cX5_answerWithReset 12 = .ok (.aload_n 0, 1) := by decide +kernel
theorem dX5_answerWithReset_13 : decode cX5_answerWithReset 13 = .ok (.getfield 49, 3) := by decide +kernel
theorem dX5_answerWithReset_16 : decode cX5_answerWithReset 16 = .ok (.bipush 8, 2) := by decide +kernel
theorem dX5_answerWithReset_18 : decode cX5_answerWithReset 18 = .ok (.invokevirtual 338, 3) := by decide +kernel
theorem dX5_answerWithReset_21 : decode cX5_answerWithReset 21 = .ok (.ifCond .eq 22, 3) := by decide +kernel
theorem dX5_answerWithReset_24 : decode cX5_answerWithReset 24 = .ok (.aload_n 0, 1) := by decide +kernel
theorem dX5_answerWithReset_25 : decode cX5_answerWithReset 25 = .ok (.getfield 42, 3) := by decide +kernel
theorem dX5_answerWithReset_28 : decode cX5_answerWithReset 28 = .ok (.iconst 4, 1) := by decide +kernel
theorem dX5_answerWithReset_29 : decode cX5_answerWithReset 29 = .ok (.aload_n 0, 1) := by decide +kernel
theorem dX5_answerWithReset_30 : decode cX5_answerWithReset 30 = .ok (.getfield 49, 3) := by decide +kernel
theorem dX5_answerWithReset_33 : decode cX5_answerWithReset 33 = .ok (.getfield 223, 3) := by decide +kernel
theorem dX5_answerWithReset_36 : decode cX5_answerWithReset 36 = .ok (.iconst 0, 1) := by decide +kernel
theorem dX5_answerWithReset_37 : decode cX5_answerWithReset 37 = .ok (.invokevirtual 143, 3) := by decide +kernel
theorem dX5_answerWithReset_40 : decode cX5_answerWithReset 40 = .ok (.goto 28, 3) := by decide +kernel
theorem dX5_answerWithReset_43 : decode cX5_answerWithReset 43 = .ok (.aload_n 0, 1) := by decide +kernel
theorem dX5_answerWithReset_44 : decode cX5_answerWithReset 44 = .ok (.getfield 42, 3) := by decide +kernel
theorem dX5_answerWithReset_47 : decode cX5_answerWithReset 47 = .ok (.bipush 12, 2) := by decide +kernel
theorem dX5_answerWithReset_49 : decode cX5_answerWithReset 49 = .ok (.iconst 0, 1) := by decide +kernel
theorem dX5_answerWithReset_50 : decode cX5_answerWithReset 50 = .ok (.aload_n 0, 1) := by decide +kernel
theorem dX5_answerWithReset_51 : decode cX5_answerWithReset 51 = .ok (.getfield 49, 3) := by decide +kernel
theorem dX5_answerWithReset_54 : decode cX5_answerWithReset 54 = .ok (.getfield 220, 3) := by decide +kernel
theorem dX5_answerWithReset_57 : decode cX5_answerWithReset 57 = .ok (.aload_n 0, 1) := by decide +kernel
theorem dX5_answerWithReset_58 : decode cX5_answerWithReset 58 = .ok (.getfield 49, 3) := by decide +kernel
theorem dX5_answerWithReset_61 : decode cX5_answerWithReset 61 = .ok (.invokevirtual 381, 3) := by decide +kernel
theorem dX5_answerWithReset_64 : decode cX5_answerWithReset 64 = .ok (.iadd, 1) := by decide +kernel
theorem dX5_answerWithReset_65 : decode cX5_answerWithReset 65 = .ok (.invokevirtual 143, 3) := by decide +kernel
theorem dX5_answerWithReset_68 : decode cX5_answerWithReset 68 = .ok (.return_, 1) := by decide +kernel
theorem dX5_takeInStream_0 : decode cX5_takeInStream 0 = .ok (.aload_n 0, 1) := by decide +kernel
theorem dX5_takeInStream_1 : decode cX5_takeInStream 1 = .ok (.getfield 60, 3) := by decide +kernel
theorem dX5_takeInStream_4 : decode cX5_takeInStream 4 = .ok (.iconst 3, 1) := by decide +kernel
theorem dX5_takeInStream_5 : decode cX5_takeInStream 5 = .ok (.if_icmp .ne 55, 3) := by decide +kernel
theorem dX5_takeInStream_8 : decode cX5_takeInStream 8 = .ok (.aload_n 0, 1) := by decide +kernel
theorem dX5_takeInStream_9 : decode cX5_takeInStream 9 = .ok (.getfield 49, 3) := by decide +kernel
theorem dX5_takeInStream_12 : decode cX5_takeInStream 12 = .ok (.getfield 223, 3) := by decide +kernel
theorem dX5_takeInStream_15 : decode cX5_takeInStream 15 = .ok (.aload_n 0, 1) := by decide +kernel
theorem dX5_takeInStream_16 : decode cX5_takeInStream 16 = .ok (.getfield 21, 3) := by decide +kernel
theorem dX5_takeInStream_19 : decode cX5_takeInStream 19 = .ok (.getfield 137, 3) := by decide +kernel
theorem dX5_takeInStream_22 : decode cX5_takeInStream 22 = .ok (.if_icmp .eq 8, 3) := by decide +kernel
theorem dX5_takeInStream_25 : decode cX5_takeInStream 25 = .ok (.aload_n 0, 1) := by decide +kernel
theorem dX5_takeInStream_26 : decode cX5_takeInStream 26 = .ok (.invokevirtual 372, 3) := by decide +kernel
theorem dX5_takeInStream_29 : decode cX5_takeInStream 29 = .ok (.return_, 1) := by decide +kernel
theorem dX5_takeInStream_30 : decode cX5_takeInStream 30 = .ok (.aload_n 0, 1) := by decide +kernel
theorem dX5_takeInStream_31 : decode cX5_takeInStream 31 = .ok (.aload_n 0, 1) := by decide +kernel
theorem dX5_takeInStream_32 : decode cX5_takeInStream 32 = .ok (.getfield 21, 3) := by decide +kernel
theorem dX5_takeInStream_35 : decode cX5_takeInStream 35 = .ok (.getfield 93, 3) := by decide +kernel
theorem dX5_takeInStream_38 : decode cX5_takeInStream 38 = .ok (.ifCond .eq 7, 3) := by decide +kernel
theorem dX5_takeInStream_41 : decode cX5_takeInStream 41 = .ok (.iconst 5, 1) := by decide +kernel
theorem dX5_takeInStream_42 : decode cX5_takeInStream 42 = .ok (.goto 4, 3) := by decide +kernel
theorem dX5_takeInStream_45 : decode cX5_takeInStream 45 = .ok (.iconst 4, 1) := by decide +kernel
theorem dX5_takeInStream_46 : decode cX5_takeInStream 46 = .ok (.putfield 60, 3) := by decide +kernel
theorem dX5_takeInStream_49 : decode cX5_takeInStream 49 = .ok (.aload_n 0, 1) := by decide +kernel
theorem dX5_takeInStream_50 : decode cX5_takeInStream 50 = .ok (.getfield 42, 3) := by decide +kernel
theorem dX5_takeInStream_53 : decode cX5_takeInStream 53 = .ok (.iconst 0, 1) := by decide +kernel
theorem dX5_takeInStream_54 : decode cX5_takeInStream 54 = .ok (.putfield 173, 3) := by decide +kernel
theorem dX5_takeInStream_57 : decode cX5_takeInStream 57 = .ok (.goto 32, 3) := by decide +kernel
theorem dX5_takeInStream_60 : decode cX5_takeInStream 60 = .ok (.aload_n 0, 1) := by decide +kernel
theorem dX5_takeInStream_61 : decode cX5_takeInStream 61 = .ok (.getfield 21, 3) := by decide +kernel
theorem dX5_takeInStream_64 : decode cX5_takeInStream 64 = .ok (.getfield 137, 3) := by decide +kernel
theorem dX5_takeInStream_67 : decode cX5_takeInStream 67 = .ok (.aload_n 0, 1) := by decide +kernel
theorem dX5_takeInStream_68 : decode cX5_takeInStream 68 = .ok (.getfield 49, 3) := by decide +kernel
theorem dX5_takeInStream_71 : decode cX5_takeInStream 71 = .ok (.getfield 223, 3) := by decide +kernel
theorem dX5_takeInStream_74 : decode cX5_takeInStream 74 = .ok (.invokestatic 408, 3) := by decide +kernel
theorem dX5_takeInStream_77 : decode cX5_takeInStream 77 = .ok (.ifCond .eq 12, 3) := by decide +kernel
theorem dX5_takeInStream_80 : decode cX5_takeInStream 80 = .ok (.aload_n 0, 1) := by decide +kernel
theorem dX5_takeInStream_81 : decode cX5_takeInStream 81 = .ok (.getfield 42, 3) := by decide +kernel
theorem dX5_takeInStream_84 : decode cX5_takeInStream 84 = .ok (.iconst 1, 1) := by decide +kernel
theorem dX5_takeInStream_85 : decode cX5_takeInStream 85 = .ok (.putfield 206, 3) := by decide +kernel
theorem dX5_takeInStream_88 : decode cX5_takeInStream 88 = .ok (.return_, 1) := by decide +kernel
theorem dX5_takeInStream_89 : decode cX5_takeInStream 89 = .ok (.aload_n 0, 1) := by decide +kernel
theorem dX5_takeInStream_90 : decode cX5_takeInStream 90 = .ok (.getfield 21, 3) := by decide +kernel
theorem dX5_takeInStream_93 : decode cX5_takeInStream 93 = .ok (.getfield 259, 3) := by decide +kernel
theorem dX5_takeInStream_96 : decode cX5_takeInStream 96 = .ok (.aload_n 0, 1) := by decide +kernel
theorem dX5_takeInStream_97 : decode cX5_takeInStream 97 = .ok (.getfield 49, 3) := by decide +kernel
theorem dX5_takeInStream_100 : decode cX5_takeInStream 100 = .ok (.getfield 223, 3) := by decide +kernel
theorem dX5_takeInStream_103 : decode cX5_takeInStream 103 = .ok (.invokestatic 408, 3) := by decide +kernel
theorem dX5_takeInStream_106 : decode cX5_takeInStream 106 = .ok (.ifCond .eq 7, 3) := by decide +kernel
theorem dX5_takeInStream_109 : decode cX5_takeInStream 109 = .ok (.aload_n 0, 1) := by decide +kernel
theorem dX5_takeInStream_110 : decode cX5_takeInStream 110 = .ok (.invokevirtual 400, 3) := by decide +kernel
theorem dX5_takeInStream_113 : decode cX5_takeInStream 113 = .ok (.aload_n 0, 1) := by decide +kernel
theorem dX5_takeInStream_114 : decode cX5_takeInStream 114 = .ok (.invokevirtual 411, 3) := by decide +kernel
theorem dX5_takeInStream_117 : decode cX5_takeInStream 117 = .ok (.aload_n 0, 1) := by decide +kernel
theorem dX5_takeInStream_118 : decode cX5_takeInStream 118 = .ok (.getfield 21, 3) := by decide +kernel
theorem dX5_takeInStream_121 : decode cX5_takeInStream 121 = .ok (.invokevirtual 414, 3) := by decide +kernel
theorem dX5_takeInStream_124 : decode cX5_takeInStream 124 = .ok (.ifCond .eq 7, 3) := by decide +kernel
theorem dX5_takeInStream_127 : decode cX5_takeInStream 127 = .ok (.aload_n 0, 1) := by decide +kernel
theorem dX5_takeInStream_128 : decode cX5_takeInStream 128 = .ok (.invokevirtual 417, 3) := by decide +kernel
theorem dX5_takeInStream_131 : decode cX5_takeInStream 131 = .ok (.aload_n 0, 1) := by decide +kernel
theorem dX5_takeInStream_132 : decode cX5_takeInStream 132 = .ok (.getfield 60, 3) := by decide +kernel
theorem dX5_takeInStream_135 : decode cX5_takeInStream 135 = .ok (.ifCond .eq 7, 3) := by decide +kernel
theorem dX5_takeInStream_138 : decode cX5_takeInStream 138 = .ok (.aload_n 0, 1) := by decide +kernel
theorem dX5_takeInStream_139 : decode cX5_takeInStream 139 = .ok (.invokevirtual 420, 3) := by decide +kernel
theorem dX5_takeInStream_142 : decode cX5_takeInStream 142 = .ok (.return_, 1) := by decide +kernel
theorem dX5_takeReset_0 : decode cX5_takeReset 0 = .ok (.aload_n 0, 1) := by decide +kernel
theorem dX5_takeReset_1 : decode cX5_takeReset 1 = .ok (.getfield 49, 3) := by decide +kernel
theorem dX5_takeReset_4 : decode cX5_takeReset 4 = .ok (.getfield 220, 3) := by decide +kernel
theorem dX5_takeReset_7 : decode cX5_takeReset 7 = .ok (.aload_n 0, 1) := by decide +kernel
theorem dX5_takeReset_8 : decode cX5_takeReset 8 = .ok (.getfield 28, 3) := by decide +kernel
theorem dX5_takeReset_11 : decode cX5_takeReset 11 = .ok (.getfield 140, 3) := by decide +kernel
theorem dX5_takeReset_14 : decode cX5_takeReset 14 = .ok (.if_icmp .eq 14, 3) := by decide +kernel
theorem dX5_takeReset_17 : decode cX5_takeReset 17 = .ok (.aload_n 0, 1) := by decide +kernel
theorem dX5_takeReset_18 : decode cX5_takeReset 18 = .ok (.getfield 42, 3) := by decide +kernel
theorem dX5_takeReset_21 : decode cX5_takeReset 21 = .ok (.iconst 1, 1) := by decide +kernel
theorem dX5_takeReset_22 : decode cX5_takeReset 22 = .ok (.putfield 206, 3) := by decide +kernel
theorem dX5_takeReset_25 : decode cX5_takeReset 25 = .ok (.goto 74, 3) := by decide +kernel
theorem dX5_takeReset_28 : decode cX5_takeReset 28 = .ok (.aload_n 0, 1) := by decide +kernel
theorem dX5_takeReset_29 : decode cX5_takeReset 29 = .ok (.getfield 60, 3) := by decide +kernel
theorem dX5_takeReset_32 : decode cX5_takeReset 32 = .ok (.iconst 3, 1) := by decide +kernel
theorem dX5_takeReset_33 : decode cX5_takeReset 33 = .ok (.if_icmp .ne 25, 3) := by decide +kernel
theorem dX5_takeReset_36 : decode cX5_takeReset 36 = .ok (.aload_n 0, 1) := by decide +kernel
theorem dX5_takeReset_37 : decode cX5_takeReset 37 = .ok (.getfield 63, 3) := by decide +kernel
theorem dX5_takeReset_40 : decode cX5_takeReset 40 = .ok (.ifCond .eq 18, 3) := by decide +kernel
theorem dX5_takeReset_43 : decode cX5_takeReset 43 = .ok (.aload_n 0, 1) := by decide +kernel
theorem dX5_takeReset_44 : decode cX5_takeReset 44 = .ok (.aload_n 0, 1) := by decide +kernel
theorem dX5_takeReset_45 : decode cX5_takeReset 45 = .ok (.getfield 21, 3) := by decide +kernel
theorem dX5_takeReset_48 : decode cX5_takeReset 48 = .ok (.getfield 296, 3) := by decide +kernel
theorem dX5_takeReset_51 : decode cX5_takeReset 51 = .ok (.iconst 1, 1) := by decide +kernel
theorem dX5_takeReset_52 : decode cX5_takeReset 52 = .ok (.invokevirtual 80, 3) := by decide +kernel
theorem dX5_takeReset_55 : decode cX5_takeReset 55 = .ok (.goto 44, 3) := by decide +kernel
theorem dX5_takeReset_58 : decode cX5_takeReset 58 = .ok (.aload_n 0, 1) := by decide +kernel
theorem dX5_takeReset_59 : decode cX5_takeReset 59 = .ok (.getfield 60, 3) := by decide +kernel
theorem dX5_takeReset_62 : decode cX5_takeReset 62 = .ok (.bipush 8, 2) := by decide +kernel
theorem dX5_takeReset_64 : decode cX5_takeReset 64 = .ok (.if_icmp .eq 21, 3) := by decide +kernel
theorem dX5_takeReset_67 : decode cX5_takeReset 67 = .ok (.aload_n 0, 1) := by decide +kernel
theorem dX5_takeReset_68 : decode cX5_takeReset 68 = .ok (.getfield 60, 3) := by decide +kernel
theorem dX5_takeReset_71 : decode cX5_takeReset 71 = .ok (.bipush 9, 2) := by decide +kernel
theorem dX5_takeReset_73 : decode cX5_takeReset 73 = .ok (.if_icmp .eq 12, 3) := by decide +kernel
theorem dX5_takeReset_76 : decode cX5_takeReset 76 = .ok (.aload_n 0, 1) := by decide +kernel
theorem dX5_takeReset_77 : decode cX5_takeReset 77 = .ok (.getfield 60, 3) := by decide +kernel
theorem dX5_takeReset_80 : decode cX5_takeReset 80 = .ok (.bipush 10, 2) := by decide +kernel
theorem dX5_takeReset_82 : decode cX5_takeReset 82 = .ok (.if_icmp .ne 11, 3) := by decide +kernel
theorem dX5_takeReset_85 : decode cX5_takeReset 85 = .ok (.aload_n 0, 1) := by decide +kernel
theorem dX5_takeReset_86 : decode cX5_takeReset 86 = .ok (.iconst 0, 1) := by decide +kernel
theorem dX5_takeReset_87 : decode cX5_takeReset 87 = .ok (.invokevirtual 132, 3) := by decide +kernel
theorem dX5_takeReset_90 : decode cX5_takeReset 90 = .ok (.goto 9, 3) := by decide +kernel
theorem dX5_takeReset_93 : decode cX5_takeReset 93 = .ok (.aload_n 0, 1) := by decide +kernel
theorem dX5_takeReset_94 : decode cX5_takeReset 94 = .ok (.bipush 11, 2) := by decide +kernel
theorem dX5_takeReset_96 : decode cX5_takeReset 96 = .ok (.invokevirtual 132, 3) := by decide +kernel
theorem dX5_takeReset_99 : decode cX5_takeReset 99 = .ok (.return_, 1) := by decide +kernel
theorem dX5_takeMisfit_0 : decode cX5_takeMisfit 0 = .ok (.aload_n 0, 1) := by decide +kernel
theorem dX5_takeMisfit_1 : decode cX5_takeMisfit 1 = .ok (.getfield 49, 3) := by decide +kernel
theorem dX5_takeMisfit_4 : decode cX5_takeMisfit 4 = .ok (.iconst 4, 1) := by decide +kernel
theorem dX5_takeMisfit_5 : decode cX5_takeMisfit 5 = .ok (.invokevirtual 338, 3) := by decide +kernel
theorem dX5_takeMisfit_8 : decode cX5_takeMisfit 8 = .ok (.ifCond .ne 11, 3) := by decide +kernel
theorem dX5_takeMisfit_11 : decode cX5_takeMisfit 11 = .ok (.aload_n 0, 1) := by decide +kernel
theorem dX5_takeMisfit_12 : decode cX5_takeMisfit 12 = .ok (.getfield 42, 3) := by decide +kernel
theorem dX5_takeMisfit_15 : decode cX5_takeMisfit 15 = .ok (.iconst 1, 1) := by decide +kernel
theorem dX5_takeMisfit_16 : decode cX5_takeMisfit 16 = .ok (.putfield 206, 3) := by decide +kernel
theorem dX5_takeMisfit_19 : decode cX5_takeMisfit 19 = .ok (.aload_n 0, 1) := by decide +kernel
