/-! written by program (wip/gen) -/
theorem dX3_append_28 : decode cX3_append 28 = .ok (.bastore, 1) := by decide +kernel
theorem dX3_append_29 : decode cX3_append 29 = .ok (.aload_n 0, 1) := by decide +kernel
theorem dX3_append_30 : decode cX3_append 30 = .ok (.dup, 1) := by decide +kernel
theorem dX3_append_31 : decode cX3_append 31 = .ok (.getfield 31, 3) := by decide +kernel
theorem dX3_append_34 : decode cX3_append 34 = .ok (.iconst 1, 1) := by decide +kernel
theorem dX3_append_35 : decode cX3_append 35 = .ok (.iadd, 1) := by decide +kernel
theorem dX3_append_36 : decode cX3_append 36 = .ok (.putfield 31, 3) := by decide +kernel
theorem dX3_append_39 : decode cX3_append 39 = .ok (.return_, 1) := by decide +kernel
theorem dX2_copyTo_0 : decode cX2_copyTo 0 = .ok (.aload_n 1, 1) := by decide +kernel
theorem dX2_copyTo_1 : decode cX2_copyTo 1 = .ok (.iconst 0, 1) := by decide +kernel
theorem dX2_copyTo_2 : decode cX2_copyTo 2 = .ok (.putfield 77, 3) := by decide +kernel
theorem dX2_copyTo_5 : decode cX2_copyTo 5 = .ok (.iconst 0, 1) := by decide +kernel
theorem dX2_copyTo_6 : decode cX2_copyTo 6 = .ok (.istore 4, 2) := by decide +kernel
theorem dX2_copyTo_8 : decode cX2_copyTo 8 = .ok (.iload 4, 2) := by decide +kernel
theorem dX2_copyTo_10 : decode cX2_copyTo 10 = .ok (.iload_n 3, 1) := by decide +kernel
theorem dX2_copyTo_11 : decode cX2_copyTo 11 = .ok (.if_icmp .ge 31, 3) := by decide +kernel
theorem dX2_copyTo_14 : decode cX2_copyTo 14 = .ok (.aload_n 1, 1) := by decide +kernel
theorem dX2_copyTo_15 : decode cX2_copyTo 15 = .ok (.aload_n 0, 1) := by decide +kernel
theorem dX2_copyTo_16 : decode cX2_copyTo 16 = .ok (.getfield 9, 3) := by decide +kernel
theorem dX2_copyTo_19 : decode cX2_copyTo 19 = .ok (.aload_n 0, 1) := by decide +kernel
theorem dX2_copyTo_20 : decode cX2_copyTo 20 = .ok (.getfield 19, 3) := by decide +kernel
theorem dX2_copyTo_23 : decode cX2_copyTo 23 = .ok (.iload_n 2, 1) := by decide +kernel
theorem dX2_copyTo_24 : decode cX2_copyTo 24 = .ok (.iadd, 1) := by decide +kernel
theorem dX2_copyTo_25 : decode cX2_copyTo 25 = .ok (.iload 4, 2) := by decide +kernel
theorem dX2_copyTo_27 : decode cX2_copyTo 27 = .ok (.iadd, 1) := by decide +kernel
theorem dX2_copyTo_28 : decode cX2_copyTo 28 = .ok (.sipush 2047, 3) := by decide +kernel
theorem dX2_copyTo_31 : decode cX2_copyTo 31 = .ok (.iand, 1) := by decide +kernel
theorem dX2_copyTo_32 : decode cX2_copyTo 32 = .ok (.baload, 1) := by decide +kernel
theorem dX2_copyTo_33 : decode cX2_copyTo 33 = .ok (.invokevirtual 80, 3) := by decide +kernel
theorem dX2_copyTo_36 : decode cX2_copyTo 36 = .ok (.iinc 4 1, 3) := by decide +kernel
theorem dX2_copyTo_39 : decode cX2_copyTo 39 = .ok (.goto (-31), 3) := by decide +kernel
theorem dX2_copyTo_42 : decode cX2_copyTo 42 = .ok (.return_, 1) := by decide +kernel
theorem dX5_make_0 : decode cX5_make 0 = .ok (.aload_n 0, 1) := by decide +kernel
theorem dX5_make_1 : decode cX5_make 1 = .ok (.getfield 28, 3) := by decide +kernel
theorem dX5_make_4 : decode cX5_make 4 = .ok (.getfield 365, 3) := by decide +kernel
theorem dX5_make_7 : decode cX5_make 7 = .ok (.ifCond .eq 8, 3) := by decide +kernel
theorem dX5_make_10 : decode cX5_make 10 = .ok (.bipush 8, 2) := by decide +kernel
theorem dX5_make_12 : decode cX5_make 12 = .ok (.goto 4, 3) := by decide +kernel
theorem dX5_make_15 : decode cX5_make 15 = .ok (.iconst 0, 1) := by decide +kernel
theorem dX5_make_16 : decode cX5_make 16 = .ok (.istore 5, 2) := by decide +kernel
theorem dX5_make_18 : decode cX5_make 18 = .ok (.iload_n 1, 1) := by decide +kernel
theorem dX5_make_19 : decode cX5_make 19 = .ok (.iconst 1, 1) := by decide +kernel
theorem dX5_make_20 : decode cX5_make 20 = .ok (.iand, 1) := by decide +kernel
theorem dX5_make_21 : decode cX5_make 21 = .ok (.ifCond .eq 10, 3) := by decide +kernel
theorem dX5_make_24 : decode cX5_make 24 = .ok (.aload_n 0, 1) := by decide +kernel
theorem dX5_make_25 : decode cX5_make 25 = .ok (.getfield 9, 3) := by decide +kernel
theorem dX5_make_28 : decode cX5_make 28 = .ok (.goto 4, 3) := by decide +kernel
theorem dX5_make_31 : decode cX5_make 31 = .ok (.iconst 0, 1) := by decide +kernel
theorem dX5_make_32 : decode cX5_make 32 = .ok (.istore 6, 2) := by decide +kernel
theorem dX5_make_34 : decode cX5_make 34 = .ok (.aload_n 0, 1) := by decide +kernel
theorem dX5_make_35 : decode cX5_make 35 = .ok (.getfield 53, 3) := by decide +kernel
theorem dX5_make_38 : decode cX5_make 38 = .ok (.iload_n 1, 1) := by decide +kernel
theorem dX5_make_39 : decode cX5_make 39 = .ok (.iload 5, 2) := by decide +kernel
theorem dX5_make_41 : decode cX5_make 41 = .ok (.ior, 1) := by decide +kernel
theorem dX5_make_42 : decode cX5_make 42 = .ok (.iload_n 2, 1) := by decide +kernel
theorem dX5_make_43 : decode cX5_make 43 = .ok (.aload_n 0, 1) := by decide +kernel
theorem dX5_make_44 : decode cX5_make 44 = .ok (.getfield 28, 3) := by decide +kernel
theorem dX5_make_47 : decode cX5_make 47 = .ok (.getfield 140, 3) := by decide +kernel
theorem dX5_make_50 : decode cX5_make 50 = .ok (.aload_n 0, 1) := by decide +kernel
theorem dX5_make_51 : decode cX5_make 51 = .ok (.getfield 28, 3) := by decide +kernel
theorem dX5_make_54 : decode cX5_make 54 = .ok (.invokevirtual 263, 3) := by decide +kernel
theorem dX5_make_57 : decode cX5_make 57 = .ok (.iload 6, 2) := by decide +kernel
theorem dX5_make_59 : decode cX5_make 59 = .ok (.invokevirtual 252, 3) := by decide +kernel
theorem dX5_make_62 : decode cX5_make 62 = .ok (.aload_n 0, 1) := by decide +kernel
theorem dX5_make_63 : decode cX5_make 63 = .ok (.getfield 21, 3) := by decide +kernel
theorem dX5_make_66 : decode cX5_make 66 = .ok (.aload_n 0, 1) := by decide +kernel
theorem dX5_make_67 : decode cX5_make 67 = .ok (.getfield 53, 3) := by decide +kernel
theorem dX5_make_70 : decode cX5_make 70 = .ok (.iload_n 3, 1) := by decide +kernel
theorem dX5_make_71 : decode cX5_make 71 = .ok (.iload 4, 2) := by decide +kernel
theorem dX5_make_73 : decode cX5_make 73 = .ok (.invokevirtual 368, 3) := by decide +kernel
theorem dX5_make_76 : decode cX5_make 76 = .ok (.aload_n 0, 1) := by decide +kernel
theorem dX5_make_77 : decode cX5_make 77 = .ok (.getfield 28, 3) := by decide +kernel
theorem dX5_make_80 : decode cX5_make 80 = .ok (.getfield 365, 3) := by decide +kernel
theorem dX5_make_83 : decode cX5_make 83 = .ok (.ifCond .eq 11, 3) := by decide +kernel
theorem dX5_make_86 : decode cX5_make 86 = .ok (.aload_n 0, 1) := by decide +kernel
theorem dX5_make_87 : decode cX5_make 87 = .ok (.getfield 42, 3) := by decide +kernel
theorem dX5_make_90 : decode cX5_make 90 = .ok (.iconst 0, 1) := by decide +kernel
theorem dX5_make_91 : decode cX5_make 91 = .ok (.putfield 206, 3) := by decide +kernel
theorem dX5_make_94 : decode cX5_make 94 = .ok (.return_, 1) := by decide +kernel
theorem dX2_wasSent_0 : decode cX2_wasSent 0 = .ok (.aload_n 0, 1) := by decide +kernel
theorem dX2_wasSent_1 : decode cX2_wasSent 1 = .ok (.dup, 1) := by decide +kernel
theorem dX2_wasSent_2 : decode cX2_wasSent 2 = .ok (.getfield 25, 3) := by decide +kernel
theorem dX2_wasSent_5 : decode cX2_wasSent 5 = .ok (.iload_n 1, 1) := by decide +kernel
theorem dX2_wasSent_6 : decode cX2_wasSent 6 = .ok (.iadd, 1) := by decide +kernel
theorem dX2_wasSent_7 : decode cX2_wasSent 7 = .ok (.putfield 25, 3) := by decide +kernel
theorem dX2_wasSent_10 : decode cX2_wasSent 10 = .ok (.aload_n 0, 1) := by decide +kernel
theorem dX2_wasSent_11 : decode cX2_wasSent 11 = .ok (.dup, 1) := by decide +kernel
theorem dX2_wasSent_12 : decode cX2_wasSent 12 = .ok (.getfield 34, 3) := by decide +kernel
theorem dX2_wasSent_15 : decode cX2_wasSent 15 = .ok (.iload_n 1, 1) := by decide +kernel
theorem dX2_wasSent_16 : decode cX2_wasSent 16 = .ok (.iadd, 1) := by decide +kernel
theorem dX2_wasSent_17 : decode cX2_wasSent 17 = .ok (.putfield 34, 3) := by decide +kernel
theorem dX2_wasSent_20 : decode cX2_wasSent 20 = .ok (.iload_n 2, 1) := by decide +kernel
theorem dX2_wasSent_21 : decode cX2_wasSent 21 = .ok (.ifCond .eq 18, 3) := by decide +kernel
theorem dX2_wasSent_24 : decode cX2_wasSent 24 = .ok (.aload_n 0, 1) := by decide +kernel
theorem dX2_wasSent_25 : decode cX2_wasSent 25 = .ok (.iconst 1, 1) := by decide +kernel
theorem dX2_wasSent_26 : decode cX2_wasSent 26 = .ok (.putfield 41, 3) := by decide +kernel
theorem dX2_wasSent_29 : decode cX2_wasSent 29 = .ok (.aload_n 0, 1) := by decide +kernel
theorem dX2_wasSent_30 : decode cX2_wasSent 30 = .ok (.dup, 1) := by decide +kernel
theorem dX2_wasSent_31 : decode cX2_wasSent 31 = .ok (.getfield 34, 3) := by decide +kernel
theorem dX2_wasSent_34 : decode cX2_wasSent 34 = .ok (.iconst 1, 1) := by decide +kernel
theorem dX2_wasSent_35 : decode cX2_wasSent 35 = .ok (.iadd, 1) := by decide +kernel
theorem dX2_wasSent_36 : decode cX2_wasSent 36 = .ok (.putfield 34, 3) := by decide +kernel
theorem dX2_wasSent_39 : decode cX2_wasSent 39 = .ok (.return_, 1) := by decide +kernel
theorem dX4_measure_0 : decode cX4_measure 0 = .ok (.aload_n 0, 1) := by decide +kernel
theorem dX4_measure_1 : decode cX4_measure 1 = .ok (.getfield 32, 3) := by decide +kernel
theorem dX4_measure_4 : decode cX4_measure 4 = .ok (.ifCond .ne 21, 3) := by decide +kernel
theorem dX4_measure_7 : decode cX4_measure 7 = .ok (.aload_n 0, 1) := by decide +kernel
theorem dX4_measure_8 : decode cX4_measure 8 = .ok (.iconst 1, 1) := by decide +kernel
theorem dX4_measure_9 : decode cX4_measure 9 = .ok (.putfield 32, 3) := by decide +kernel
theorem dX4_measure_12 : decode cX4_measure 12 = .ok (.aload_n 0, 1) := by decide +kernel
theorem dX4_measure_13 : decode cX4_measure 13 = .ok (.iload_n 1, 1) := by decide +kernel
theorem dX4_measure_14 : decode cX4_measure 14 = .ok (.putfield 35, 3) := by decide +kernel
theorem dX4_measure_17 : decode cX4_measure 17 = .ok (.aload_n 0, 1) := by decide +kernel
theorem dX4_measure_18 : decode cX4_measure 18 = .ok (.aload_n 0, 1) := by decide +kernel
theorem dX4_measure_19 : decode cX4_measure 19 = .ok (.getfield 41, 3) := by decide +kernel
theorem dX4_measure_22 : decode cX4_measure 22 = .ok (.putfield 38, 3) := by decide +kernel
theorem dX4_measure_25 : decode cX4_measure 25 = .ok (.return_, 1) := by decide +kernel
theorem dX4_setAlarmIfOff_0 : decode cX4_setAlarmIfOff 0 = .ok (.aload_n 0, 1) := by decide +kernel
theorem dX4_setAlarmIfOff_1 : decode cX4_setAlarmIfOff 1 = .ok (.getfield 13, 3) := by decide +kernel
theorem dX4_setAlarmIfOff_4 : decode cX4_setAlarmIfOff 4 = .ok (.ifCond .ne 7, 3) := by decide +kernel
theorem dX4_setAlarmIfOff_7 : decode cX4_setAlarmIfOff 7 = .ok (.aload_n 0, 1) := by decide +kernel
theorem dX4_setAlarmIfOff_8 : decode cX4_setAlarmIfOff 8 = .ok (.invokevirtual 44, 3) := by decide +kernel
theorem dX4_setAlarmIfOff_11 : decode cX4_setAlarmIfOff 11 = .ok (.return_, 1) := by decide +kernel
theorem dX5_makeNew_0 : decode cX5_makeNew 0 = .ok (.aload_n 0, 1) := by decide +kernel
theorem dX5_makeNew_1 : decode cX5_makeNew 1 = .ok (.getfield 42, 3) := by decide +kernel
theorem dX5_makeNew_4 : decode cX5_makeNew 4 = .ok (.iconst 0, 1) := by decide +kernel
theorem dX5_makeNew_5 : decode cX5_makeNew 5 = .ok (.putfield 200, 3) := by decide +kernel
theorem dX5_makeNew_8 : decode cX5_makeNew 8 = .ok (.aload_n 0, 1) := by decide +kernel
theorem dX5_makeNew_9 : decode cX5_makeNew 9 = .ok (.iload_n 2, 1) := by decide +kernel
theorem dX5_makeNew_10 : decode cX5_makeNew 10 = .ok (.ifCond .eq 7, 3) := by decide +kernel
theorem dX5_makeNew_13 : decode cX5_makeNew 13 = .ok (.iconst 2, 1) := by decide +kernel
theorem dX5_makeNew_14 : decode cX5_makeNew 14 = .ok (.goto 4, 3) := by decide +kernel
theorem dX5_makeNew_17 : decode cX5_makeNew 17 = .ok (.iconst 0, 1) := by decide +kernel
theorem dX5_makeNew_18 : decode cX5_makeNew 18 = .ok (.aload_n 0, 1) := by decide +kernel
theorem dX5_makeNew_19 : decode cX5_makeNew 19 = .ok (.getfield 21, 3) := by decide +kernel
theorem dX5_makeNew_22 : decode cX5_makeNew 22 = .ok (.getfield 137, 3) := by decide +kernel
theorem dX5_makeNew_25 : decode cX5_makeNew 25 = .ok (.aload_n 0, 1) := by decide +kernel
theorem dX5_makeNew_26 : decode cX5_makeNew 26 = .ok (.getfield 21, 3) := by decide +kernel
theorem dX5_makeNew_29 : decode cX5_makeNew 29 = .ok (.getfield 353, 3) := by decide +kernel
theorem dX5_makeNew_32 : decode cX5_makeNew 32 = .ok (.iload_n 1, 1) := by decide +kernel
theorem dX5_makeNew_33 : decode cX5_makeNew 33 = .ok (.invokevirtual 209, 3) := by decide +kernel
theorem dX5_makeNew_36 : decode cX5_makeNew 36 = .ok (.aload_n 0, 1) := by decide +kernel
theorem dX5_makeNew_37 : decode cX5_makeNew 37 = .ok (.getfield 21, 3) := by decide +kernel
theorem dX5_makeNew_40 : decode cX5_makeNew 40 = .ok (.iload_n 1, 1) := by decide +kernel
theorem dX5_makeNew_41 : decode cX5_makeNew 41 = .ok (.iload_n 2, 1) := by decide +kernel
theorem dX5_makeNew_42 : decode cX5_makeNew 42 = .ok (.invokevirtual 362, 3) := by decide +kernel
theorem dX5_makeNew_45 : decode cX5_makeNew 45 = .ok (.aload_n 0, 1) := by decide +kernel
theorem dX5_makeNew_46 : decode cX5_makeNew 46 = .ok (.getfield 35, 3) := by decide +kernel
theorem dX5_makeNew_49 : decode cX5_makeNew 49 = .ok (.aload_n 0, 1) := by decide +kernel
theorem dX5_makeNew_50 : decode cX5_makeNew 50 = .ok (.getfield 21, 3) := by decide +kernel
theorem dX5_makeNew_53 : decode cX5_makeNew 53 = .ok (.getfield 137, 3) := by decide +kernel
theorem dX5_makeNew_56 : decode cX5_makeNew 56 = .ok (.invokevirtual 347, 3) := by decide +kernel
theorem dX5_makeNew_59 : decode cX5_makeNew 59 = .ok (.aload_n 0, 1) := by decide +kernel
theorem dX5_makeNew_60 : decode cX5_makeNew 60 = .ok (.getfield 35, 3) := by decide +kernel
theorem dX5_makeNew_63 : decode cX5_makeNew 63 = .ok (.invokevirtual 350, 3) := by decide +kernel
theorem dX5_makeNew_66 : decode cX5_makeNew 66 = .ok (.return_, 1) := by decide +kernel
theorem dX5_makeProbe_0 : decode cX5_makeProbe 0 = .ok (.aload_n 0, 1) := by decide +kernel
theorem dX5_makeProbe_1 : decode cX5_makeProbe 1 = .ok (.getfield 21, 3) := by decide +kernel
theorem dX5_makeProbe_4 : decode cX5_makeProbe 4 = .ok (.invokevirtual 359, 3) := by decide +kernel
theorem dX5_makeProbe_7 : decode cX5_makeProbe 7 = .ok (.ifCond .ne 7, 3) := by decide +kernel
theorem dX5_makeProbe_10 : decode cX5_makeProbe 10 = .ok (.iconst 1, 1) := by decide +kernel
theorem dX5_makeProbe_11 : decode cX5_makeProbe 11 = .ok (.goto 4, 3) := by decide +kernel
theorem dX5_makeProbe_14 : decode cX5_makeProbe 14 = .ok (.iconst 0, 1) := by decide +kernel
theorem dX5_makeProbe_15 : decode cX5_makeProbe 15 = .ok (.istore_n 1, 1) := by decide +kernel
theorem dX5_makeProbe_16 : decode cX5_makeProbe 16 = .ok (.aload_n 0, 1) := by decide +kernel
theorem dX5_makeProbe_17 : decode cX5_makeProbe 17 = .ok (.iload_n 1, 1) := by decide +kernel
theorem dX5_makeProbe_18 : decode cX5_makeProbe 18 = .ok (.ifCond .eq 7, 3) := by decide +kernel
theorem dX5_makeProbe_21 : decode cX5_makeProbe 21 = .ok (.iconst 0, 1) := by decide +kernel
theorem dX5_makeProbe_22 : decode cX5_makeProbe 22 = .ok (.goto 4, 3) := by decide +kernel
theorem dX5_makeProbe_25 : decode cX5_makeProbe 25 = .ok (.iconst 1, 1) := by decide +kernel
theorem dX5_makeProbe_26 : decode cX5_makeProbe 26 = .ok (.iload_n 1, 1) := by decide +kernel
theorem dX5_makeProbe_27 : decode cX5_makeProbe 27 = .ok (.invokevirtual 197, 3) := by decide +kernel
theorem dX5_makeProbe_30 : decode cX5_makeProbe 30 = .ok (.return_, 1) := by decide +kernel
theorem dX2_allowed_0 : decode cX2_allowed 0 = .ok (.aload_n 0, 1) := by decide +kernel
theorem dX2_allowed_1 : decode cX2_allowed 1 = .ok (.getfield 56, 3) := by decide +kernel
theorem dX2_allowed_4 : decode cX2_allowed 4 = .ok (.aload_n 0, 1) := by decide +kernel
theorem dX2_allowed_5 : decode cX2_allowed 5 = .ok (.getfield 34, 3) := by decide +kernel
theorem dX2_allowed_8 : decode cX2_allowed 8 = .ok (.aload_n 0, 1) := by decide +kernel
theorem dX2_allowed_9 : decode cX2_allowed 9 = .ok (.getfield 31, 3) := by decide +kernel
theorem dX2_allowed_12 : decode cX2_allowed 12 = .ok (.isub, 1) := by decide +kernel
theorem dX2_allowed_13 : decode cX2_allowed 13 = .ok (.isub, 1) := by decide +kernel
theorem dX2_allowed_14 : decode cX2_allowed 14 = .ok (.ireturn, 1) := by decide +kernel
theorem dX2_newBytes_0 : decode cX2_newBytes 0 = .ok (.iconst 0, 1) := by decide +kernel
theorem dX2_newBytes_1 : decode cX2_newBytes 1 = .ok (.aload_n 0, 1) := by decide +kernel
theorem dX2_newBytes_2 : decode cX2_newBytes 2 = .ok (.invokevirtual 48, 3) := by decide +kernel
theorem dX2_newBytes_5 : decode cX2_newBytes 5 = .ok (.aload_n 0, 1) := by decide +kernel
theorem dX2_newBytes_6 : decode cX2_newBytes 6 = .ok (.getfield 15, 3) := by decide +kernel
theorem dX2_newBytes_9 : decode cX2_newBytes 9 = .ok (.aload_n 0, 1) := by decide +kernel
theorem dX2_newBytes_10 : decode cX2_newBytes 10 = .ok (.invokevirtual 59, 3) := by decide +kernel
theorem dX2_newBytes_13 : decode cX2_newBytes 13 = .ok (.invokestatic 62, 3) := by decide +kernel
theorem dX2_newBytes_16 : decode cX2_newBytes 16 = .ok (.invokestatic 62, 3) := by decide +kernel
theorem dX2_newBytes_19 : decode cX2_newBytes 19 = .ok (.invokestatic 68, 3) := by decide +kernel
theorem dX2_newBytes_22 : decode cX2_newBytes 22 = .ok (.ireturn, 1) := by decide +kernel
theorem dX2_newHasLast_0 : decode cX2_newHasLast 0 = .ok (.aload_n 0, 1) := by decide +kernel
theorem dX2_newHasLast_1 : decode cX2_newHasLast 1 = .ok (.invokevirtual 71, 3) := by decide +kernel
theorem dX2_newHasLast_4 : decode cX2_newHasLast 4 = .ok (.istore_n 1, 1) := by decide +kernel
theorem dX2_newHasLast_5 : decode cX2_newHasLast 5 = .ok (.aload_n 0, 1) := by decide +kernel
theorem dX2_newHasLast_6 : decode cX2_newHasLast 6 = .ok (.getfield 37, 3) := by decide +kernel
theorem dX2_newHasLast_9 : decode cX2_newHasLast 9 = .ok (.ifCond .eq 30, 3) := by decide +kernel
theorem dX2_newHasLast_12 : decode cX2_newHasLast 12 = .ok (.aload_n 0, 1) := by decide +kernel
theorem dX2_newHasLast_13 : decode cX2_newHasLast 13 = .ok (.getfield 41, 3) := by decide +kernel
theorem dX2_newHasLast_16 : decode cX2_newHasLast 16 = .ok (.ifCond .ne 23, 3) := by decide +kernel
theorem dX2_newHasLast_19 : decode cX2_newHasLast 19 = .ok (.iload_n 1, 1) := by decide +kernel
theorem dX2_newHasLast_20 : decode cX2_newHasLast 20 = .ok (.aload_n 0, 1) := by decide +kernel
theorem dX2_newHasLast_21 : decode cX2_newHasLast 21 = .ok (.invokevirtual 48, 3) := by decide +kernel
theorem dX2_newHasLast_24 : decode cX2_newHasLast 24 = .ok (.if_icmp .ne 15, 3) := by decide +kernel
theorem dX2_newHasLast_27 : decode cX2_newHasLast 27 = .ok (.iload_n 1, 1) := by decide +kernel
theorem dX2_newHasLast_28 : decode cX2_newHasLast 28 = .ok (.aload_n 0, 1) := by decide +kernel
theorem dX2_newHasLast_29 : decode cX2_newHasLast 29 = .ok (.invokevirtual 59, 3) := by decide +kernel
theorem dX2_newHasLast_32 : decode cX2_newHasLast 32 = .ok (.if_icmp .ge 7, 3) := by decide +kernel
theorem dX2_newHasLast_35 : decode cX2_newHasLast 35 = .ok (.iconst 1, 1) := by decide +kernel
theorem dX2_newHasLast_36 : decode cX2_newHasLast 36 = .ok (.goto 4, 3) := by decide +kernel
theorem dX2_newHasLast_39 : decode cX2_newHasLast 39 = .ok (.iconst 0, 1) := by decide +kernel
theorem dX2_newHasLast_40 : decode cX2_newHasLast 40 = .ok (.ireturn, 1) := by decide +kernel
theorem dX2_maySend_0 : decode cX2_maySend 0 = .ok (.aload_n 0, 1) := by decide +kernel
theorem dX2_maySend_1 : decode cX2_maySend 1 = .ok (.invokevirtual 71, 3) := by decide +kernel
theorem dX2_maySend_4 : decode cX2_maySend 4 = .ok (.ifCond .gt 10, 3) := by decide +kernel
theorem dX2_maySend_7 : decode cX2_maySend 7 = .ok (.aload_n 0, 1) := by decide +kernel
theorem dX2_maySend_8 : decode cX2_maySend 8 = .ok (.invokevirtual 74, 3) := by decide +kernel
theorem dX2_maySend_11 : decode cX2_maySend 11 = .ok (.ifCond .eq 7, 3) := by decide +kernel
theorem dX2_maySend_14 : decode cX2_maySend 14 = .ok (.iconst 1, 1) := by decide +kernel
theorem dX2_maySend_15 : decode cX2_maySend 15 = .ok (.goto 4, 3) := by decide +kernel
theorem dX2_maySend_18 : decode cX2_maySend 18 = .ok (.iconst 0, 1) := by decide +kernel
theorem dX2_maySend_19 : decode cX2_maySend 19 = .ok (.ireturn, 1) := by decide +kernel
theorem dX5_makeAgain_0 : decode cX5_makeAgain 0 = .ok (.aload_n 0, 1) := by decide +kernel
theorem dX5_makeAgain_1 : decode cX5_makeAgain 1 = .ok (.getfield 42, 3) := by decide +kernel
theorem dX5_makeAgain_4 : decode cX5_makeAgain 4 = .ok (.iconst 0, 1) := by decide +kernel
theorem dX5_makeAgain_5 : decode cX5_makeAgain 5 = .ok (.putfield 179, 3) := by decide +kernel
theorem dX5_makeAgain_8 : decode cX5_makeAgain 8 = .ok (.aload_n 0, 1) := by decide +kernel
theorem dX5_makeAgain_9 : decode cX5_makeAgain 9 = .ok (.getfield 21, 3) := by decide +kernel
theorem dX5_makeAgain_12 : decode cX5_makeAgain 12 = .ok (.getfield 353, 3) := by decide +kernel
theorem dX5_makeAgain_15 : decode cX5_makeAgain 15 = .ok (.aload_n 0, 1) := by decide +kernel
theorem dX5_makeAgain_16 : decode cX5_makeAgain 16 = .ok (.getfield 21, 3) := by decide +kernel
theorem dX5_makeAgain_19 : decode cX5_makeAgain 19 = .ok (.getfield 273, 3) := by decide +kernel
theorem dX5_makeAgain_22 : decode cX5_makeAgain 22 = .ok (.invokestatic 102, 3) := by decide +kernel
theorem dX5_makeAgain_25 : decode cX5_makeAgain 25 = .ok (.istore_n 1, 1) := by decide +kernel
theorem dX5_makeAgain_26 : decode cX5_makeAgain 26 = .ok (.aload_n 0, 1) := by decide +kernel
theorem dX5_makeAgain_27 : decode cX5_makeAgain 27 = .ok (.getfield 21, 3) := by decide +kernel
theorem dX5_makeAgain_30 : decode cX5_makeAgain 30 = .ok (.getfield 356, 3) := by decide +kernel
theorem dX5_makeAgain_33 : decode cX5_makeAgain 33 = .ok (.ifCond .eq 18, 3) := by decide +kernel
theorem dX5_makeAgain_36 : decode cX5_makeAgain 36 = .ok (.iload_n 1, 1) := by decide +kernel
theorem dX5_makeAgain_37 : decode cX5_makeAgain 37 = .ok (.aload_n 0, 1) := by decide +kernel
theorem dX5_makeAgain_38 : decode cX5_makeAgain 38 = .ok (.getfield 21, 3) := by decide +kernel
theorem dX5_makeAgain_41 : decode cX5_makeAgain 41 = .ok (.getfield 353, 3) := by decide +kernel
theorem dX5_makeAgain_44 : decode cX5_makeAgain 44 = .ok (.if_icmp .ne 7, 3) := by decide +kernel
theorem dX5_makeAgain_47 : decode cX5_makeAgain 47 = .ok (.iconst 1, 1) := by decide +kernel
theorem dX5_makeAgain_48 : decode cX5_makeAgain 48 = .ok (.goto 4, 3) := by decide +kernel
theorem dX5_makeAgain_51 : decode cX5_makeAgain 51 = .ok (.iconst 0, 1) := by decide +kernel
theorem dX5_makeAgain_52 : decode cX5_makeAgain 52 = .ok (.istore_n 2, 1) := by decide +kernel
theorem dX5_makeAgain_53 : decode cX5_makeAgain 53 = .ok (.aload_n 0, 1) := by decide +kernel
theorem dX5_makeAgain_54 : decode cX5_makeAgain 54 = .ok (.iload_n 2, 1) := by decide +kernel
theorem dX5_makeAgain_55 : decode cX5_makeAgain 55 = .ok (.ifCond .eq 7, 3) := by decide +kernel
theorem dX5_makeAgain_58 : decode cX5_makeAgain 58 = .ok (.iconst 2, 1) := by decide +kernel
theorem dX5_makeAgain_59 : decode cX5_makeAgain 59 = .ok (.goto 4, 3) := by decide +kernel
theorem dX5_makeAgain_62 : decode cX5_makeAgain 62 = .ok (.iconst 0, 1) := by decide +kernel
theorem dX5_makeAgain_63 : decode cX5_makeAgain 63 = .ok (.aload_n 0, 1) := by decide +kernel
theorem dX5_makeAgain_64 : decode cX5_makeAgain 64 = .ok (.getfield 21, 3) := by decide +kernel
theorem dX5_makeAgain_67 : decode cX5_makeAgain 67 = .ok (.getfield 259, 3) := by decide +kernel
theorem dX5_makeAgain_70 : decode cX5_makeAgain 70 = .ok (.iconst 0, 1) := by decide +kernel
theorem dX5_makeAgain_71 : decode cX5_makeAgain 71 = .ok (.iload_n 1, 1) := by decide +kernel
theorem dX5_makeAgain_72 : decode cX5_makeAgain 72 = .ok (.invokevirtual 209, 3) := by decide +kernel
theorem dX5_makeAgain_75 : decode cX5_makeAgain 75 = .ok (.aload_n 0, 1) := by decide +kernel
theorem dX5_makeAgain_76 : decode cX5_makeAgain 76 = .ok (.getfield 35, 3) := by decide +kernel
theorem dX5_makeAgain_79 : decode cX5_makeAgain 79 = .ok (.iconst 0, 1) := by decide +kernel
theorem dX5_makeAgain_80 : decode cX5_makeAgain 80 = .ok (.putfield 344, 3) := by decide +kernel
theorem dX5_makeAgain_83 : decode cX5_makeAgain 83 = .ok (.return_, 1) := by decide +kernel
theorem dX5_makeOpen_0 : decode cX5_makeOpen 0 = .ok (.aload_n 0, 1) := by decide +kernel
theorem dX5_makeOpen_1 : decode cX5_makeOpen 1 = .ok (.getfield 42, 3) := by decide +kernel
theorem dX5_makeOpen_4 : decode cX5_makeOpen 4 = .ok (.iconst 0, 1) := by decide +kernel
theorem dX5_makeOpen_5 : decode cX5_makeOpen 5 = .ok (.putfield 173, 3) := by decide +kernel
theorem dX5_makeOpen_8 : decode cX5_makeOpen 8 = .ok (.aload_n 0, 1) := by decide +kernel
theorem dX5_makeOpen_9 : decode cX5_makeOpen 9 = .ok (.iconst 1, 1) := by decide +kernel
theorem dX5_makeOpen_10 : decode cX5_makeOpen 10 = .ok (.aload_n 0, 1) := by decide +kernel
theorem dX5_makeOpen_11 : decode cX5_makeOpen 11 = .ok (.getfield 21, 3) := by decide +kernel
theorem dX5_makeOpen_14 : decode cX5_makeOpen 14 = .ok (.getfield 296, 3) := by decide +kernel
theorem dX5_makeOpen_17 : decode cX5_makeOpen 17 = .ok (.iconst 0, 1) := by decide +kernel
theorem dX5_makeOpen_18 : decode cX5_makeOpen 18 = .ok (.iconst 0, 1) := by decide +kernel
theorem dX5_makeOpen_19 : decode cX5_makeOpen 19 = .ok (.invokevirtual 209, 3) := by decide +kernel
theorem dX5_makeOpen_22 : decode cX5_makeOpen 22 = .ok (.aload_n 0, 1) := by decide +kernel
theorem dX5_makeOpen_23 : decode cX5_makeOpen 23 = .ok (.getfield 42, 3) := by decide +kernel
theorem dX5_makeOpen_26 : decode cX5_makeOpen 26 = .ok (.getfield 341, 3) := by decide +kernel
theorem dX5_makeOpen_29 : decode cX5_makeOpen 29 = .ok (.ifCond .eq 14, 3) := by decide +kernel
theorem dX5_makeOpen_32 : decode cX5_makeOpen 32 = .ok (.aload_n 0, 1) := by decide +kernel
theorem dX5_makeOpen_33 : decode cX5_makeOpen 33 = .ok (.getfield 35, 3) := by decide +kernel
theorem dX5_makeOpen_36 : decode cX5_makeOpen 36 = .ok (.iconst 0, 1) := by decide +kernel
theorem dX5_makeOpen_37 : decode cX5_makeOpen 37 = .ok (.putfield 344, 3) := by decide +kernel
theorem dX5_makeOpen_40 : decode cX5_makeOpen 40 = .ok (.goto 25, 3) := by decide +kernel
theorem dX5_makeOpen_43 : decode cX5_makeOpen 43 = .ok (.aload_n 0, 1) := by decide +kernel
theorem dX5_makeOpen_44 : decode cX5_makeOpen 44 = .ok (.getfield 42, 3) := by decide +kernel
theorem dX5_makeOpen_47 : decode cX5_makeOpen 47 = .ok (.iconst 1, 1) := by decide +kernel
theorem dX5_makeOpen_48 : decode cX5_makeOpen 48 = .ok (.putfield 341, 3) := by decide +kernel
theorem dX5_makeOpen_51 : decode cX5_makeOpen 51 = .ok (.aload_n 0, 1) := by decide +kernel
theorem dX5_makeOpen_52 : decode cX5_makeOpen 52 = .ok (.getfield 35, 3) := by decide +kernel
theorem dX5_makeOpen_55 : decode cX5_makeOpen 55 = .ok (.aload_n 0, 1) := by decide +kernel
theorem dX5_makeOpen_56 : decode cX5_makeOpen 56 = .ok (.getfield 21, 3) := by decide +kernel
theorem dX5_makeOpen_59 : decode cX5_makeOpen 59 = .ok (.getfield 137, 3) := by decide +kernel
theorem dX5_makeOpen_62 : decode cX5_makeOpen 62 = .ok (.invokevirtual 347, 3) := by decide +kernel
theorem dX5_makeOpen_65 : decode cX5_makeOpen 65 = .ok (.aload_n 0, 1) := by decide +kernel
theorem dX5_makeOpen_66 : decode cX5_makeOpen 66 = .ok (.getfield 35, 3) := by decide +kernel
theorem dX5_makeOpen_69 : decode cX5_makeOpen 69 = .ok (.invokevirtual 350, 3) := by decide +kernel
theorem dX5_makeOpen_72 : decode cX5_makeOpen 72 = .ok (.return_, 1) := by decide +kernel
theorem dX3_has_0 : decode cX3_has 0 = .ok (.aload_n 0, 1) := by decide +kernel
theorem dX3_has_1 : decode cX3_has 1 = .ok (.getfield 15, 3) := by decide +kernel
theorem dX3_has_4 : decode cX3_has 4 = .ok (.iload_n 1, 1) := by decide +kernel
theorem dX3_has_5 : decode cX3_has 5 = .ok (.iand, 1) := by decide +kernel
theorem dX3_has_6 : decode cX3_has 6 = .ok (.ifCond .eq 7, 3) := by decide +kernel
theorem dX3_has_9 : decode cX3_has 9 = .ok (.iconst 1, 1) := by decide +kernel
theorem dX3_has_10 : decode cX3_has 10 = .ok (.goto 4, 3) := by decide +kernel
theorem dX3_has_13 : decode cX3_has 13 = .ok (.iconst 0, 1) := by decide +kernel
theorem dX3_has_14 : decode cX3_has 14 = .ok (.ireturn, 1) := by decide +kernel
theorem dX5_makeReset_0 : decode cX5_makeReset 0 = .ok (.aload_n 0, 1) := by decide +kernel
theorem dX5_makeReset_1 : decode cX5_makeReset 1 = .ok (.getfield 42, 3) := by decide +kernel
theorem dX5_makeReset_4 : decode cX5_makeReset 4 = .ok (.iconst 0, 1) := by decide +kernel
theorem dX5_makeReset_5 : decode cX5_makeReset 5 = .ok (.putfield 167, 3) := by decide +kernel
theorem dX5_makeReset_8 : decode cX5_makeReset 8 = .ok (.aload_n 0, 1) := by decide +kernel
theorem dX5_makeReset_9 : decode cX5_makeReset 9 = .ok (.getfield 53, 3) := by decide +kernel
theorem dX5_makeReset_12 : decode cX5_makeReset 12 = .ok (.aload_n 0, 1) := by decide +kernel
theorem dX5_makeReset_13 : decode cX5_makeReset 13 = .ok (.getfield 42, 3) := by decide +kernel
theorem dX5_makeReset_16 : decode cX5_makeReset 16 = .ok (.getfield 329, 3) := by decide +kernel
theorem dX5_makeReset_19 : decode cX5_makeReset 19 = .ok (.aload_n 0, 1) := by decide +kernel
theorem dX5_makeReset_20 : decode cX5_makeReset 20 = .ok (.getfield 42, 3) := by decide +kernel
theorem dX5_makeReset_23 : decode cX5_makeReset 23 = .ok (.getfield 332, 3) := by decide +kernel
theorem dX5_makeReset_26 : decode cX5_makeReset 26 = .ok (.aload_n 0, 1) := by decide +kernel
theorem dX5_makeReset_27 : decode cX5_makeReset 27 = .ok (.getfield 42, 3) := by decide +kernel
theorem dX5_makeReset_30 : decode cX5_makeReset 30 = .ok (.getfield 335, 3) := by decide +kernel
theorem dX5_makeReset_33 : decode cX5_makeReset 33 = .ok (.iconst 0, 1) := by decide +kernel
theorem dX5_makeReset_34 : decode cX5_makeReset 34 = .ok (.iconst 0, 1) := by decide +kernel
theorem dX5_makeReset_35 : decode cX5_makeReset 35 = .ok (.invokevirtual 252, 3) := by decide +kernel
theorem dX5_makeReset_38 : decode cX5_makeReset 38 = .ok (.aload_n 0, 1) := by decide +kernel
theorem dX5_makeReset_39 : decode cX5_makeReset 39 = .ok (.getfield 53, 3) := by decide +kernel
theorem dX5_makeReset_42 : decode cX5_makeReset 42 = .ok (.iconst 0, 1) := by decide +kernel
theorem dX5_makeReset_43 : decode cX5_makeReset 43 = .ok (.putfield 230, 3) := by decide +kernel
theorem dX5_makeReset_46 : decode cX5_makeReset 46 = .ok (.aload_n 0, 1) := by decide +kernel
theorem dX5_makeReset_47 : decode cX5_makeReset 47 = .ok (.getfield 53, 3) := by decide +kernel
theorem dX5_makeReset_50 : decode cX5_makeReset 50 = .ok (.bipush 8, 2) := by decide +kernel
theorem dX5_makeReset_52 : decode cX5_makeReset 52 = .ok (.invokevirtual 338, 3) := by decide +kernel
theorem dX5_makeReset_55 : decode cX5_makeReset 55 = .ok (.ifCond .eq 11, 3) := by decide +kernel
theorem dX5_makeReset_58 : decode cX5_makeReset 58 = .ok (.aload_n 0, 1) := by decide +kernel
theorem dX5_makeReset_59 : decode cX5_makeReset 59 = .ok (.getfield 42, 3) := by decide +kernel
theorem dX5_makeReset_62 : decode cX5_makeReset 62 = .ok (.iconst 0, 1) := by decide +kernel
theorem dX5_makeReset_63 : decode cX5_makeReset 63 = .ok (.putfield 206, 3) := by decide +kernel
theorem dX5_makeReset_66 : decode cX5_makeReset 66 = .ok (.return_, 1) := by decide +kernel
theorem dX5_next_0 : decode cX5_next 0 = .ok (.aload_n 0, 1) := by decide +kernel
theorem dX5_next_1 : decode cX5_next 1 = .ok (.getfield 42, 3) := by decide +kernel
theorem dX5_next_4 : decode cX5_next 4 = .ok (.getfield 167, 3) := by decide +kernel
theorem dX5_next_7 : decode cX5_next 7 = .ok (.ifCond .eq 10, 3) := by decide +kernel
theorem dX5_next_10 : decode cX5_next 10 = .ok (.aload_n 0, 1) := by decide +kernel
theorem dX5_next_11 : decode cX5_next 11 = .ok (.invokevirtual 170, 3) := by decide +kernel
theorem dX5_next_14 : decode cX5_next 14 = .ok (.goto 121, 3) := by decide +kernel
theorem dX5_next_17 : decode cX5_next 17 = .ok (.aload_n 0, 1) := by decide +kernel
theorem dX5_next_18 : decode cX5_next 18 = .ok (.getfield 42, 3) := by decide +kernel
theorem dX5_next_21 : decode cX5_next 21 = .ok (.getfield 173, 3) := by decide +kernel
theorem dX5_next_24 : decode cX5_next 24 = .ok (.ifCond .eq 10, 3) := by decide +kernel
theorem dX5_next_27 : decode cX5_next 27 = .ok (.aload_n 0, 1) := by decide +kernel
theorem dX5_next_28 : decode cX5_next 28 = .ok (.invokevirtual 176, 3) := by decide +kernel
theorem dX5_next_31 : decode cX5_next 31 = .ok (.goto 104, 3) := by decide +kernel
theorem dX5_next_34 : decode cX5_next 34 = .ok (.aload_n 0, 1) := by decide +kernel
theorem dX5_next_35 : decode cX5_next 35 = .ok (.getfield 42, 3) := by decide +kernel
theorem dX5_next_38 : decode cX5_next 38 = .ok (.getfield 179, 3) := by decide +kernel
theorem dX5_next_41 : decode cX5_next 41 = .ok (.ifCond .eq 10, 3) := by decide +kernel
theorem dX5_next_44 : decode cX5_next 44 = .ok (.aload_n 0, 1) := by decide +kernel
theorem dX5_next_45 : decode cX5_next 45 = .ok (.invokevirtual 182, 3) := by decide +kernel
theorem dX5_next_48 : decode cX5_next 48 = .ok (.goto 87, 3) := by decide +kernel
theorem dX5_next_51 : decode cX5_next 51 = .ok (.aload_n 0, 1) := by decide +kernel
theorem dX5_next_52 : decode cX5_next 52 = .ok (.invokevirtual 185, 3) := by decide +kernel
theorem dX5_next_55 : decode cX5_next 55 = .ok (.ifCond .eq 34, 3) := by decide +kernel
theorem dX5_next_58 : decode cX5_next 58 = .ok (.aload_n 0, 1) := by decide +kernel
theorem dX5_next_59 : decode cX5_next 59 = .ok (.getfield 21, 3) := by decide +kernel
theorem dX5_next_62 : decode cX5_next 62 = .ok (.invokevirtual 188, 3) := by decide +kernel
theorem dX5_next_65 : decode cX5_next 65 = .ok (.ifCond .eq 24, 3) := by decide +kernel
theorem dX5_next_68 : decode cX5_next 68 = .ok (.aload_n 0, 1) := by decide +kernel
theorem dX5_next_69 : decode cX5_next 69 = .ok (.aload_n 0, 1) := by decide +kernel
theorem dX5_next_70 : decode cX5_next 70 = .ok (.getfield 21, 3) := by decide +kernel
theorem dX5_next_73 : decode cX5_next 73 = .ok (.invokevirtual 191, 3) := by decide +kernel
theorem dX5_next_76 : decode cX5_next 76 = .ok (.aload_n 0, 1) := by decide +kernel
theorem dX5_next_77 : decode cX5_next 77 = .ok (.getfield 21, 3) := by decide +kernel
theorem dX5_next_80 : decode cX5_next 80 = .ok (.invokevirtual 194, 3) := by decide +kernel
theorem dX5_next_83 : decode cX5_next 83 = .ok (.invokevirtual 197, 3) := by decide +kernel
theorem dX5_next_86 : decode cX5_next 86 = .ok (.goto 49, 3) := by decide +kernel
theorem dX5_next_89 : decode cX5_next 89 = .ok (.aload_n 0, 1) := by decide +kernel
theorem dX5_next_90 : decode cX5_next 90 = .ok (.getfield 42, 3) := by decide +kernel
theorem dX5_next_93 : decode cX5_next 93 = .ok (.getfield 200, 3) := by decide +kernel
theorem dX5_next_96 : decode cX5_next 96 = .ok (.ifCond .eq 10, 3) := by decide +kernel
theorem dX5_next_99 : decode cX5_next 99 = .ok (.aload_n 0, 1) := by decide +kernel
theorem dX5_next_100 : decode cX5_next 100 = .ok (.invokevirtual 203, 3) := by decide +kernel
theorem dX5_next_103 : decode cX5_next 103 = .ok (.goto 32, 3) := by decide +kernel
theorem dX5_next_106 : decode cX5_next 106 = .ok (.aload_n 0, 1) := by decide +kernel
theorem dX5_next_107 : decode cX5_next 107 = .ok (.getfield 42, 3) := by decide +kernel
theorem dX5_next_110 : decode cX5_next 110 = .ok (.getfield 206, 3) := by decide +kernel
theorem dX5_next_113 : decode cX5_next 113 = .ok (.ifCond .eq 20, 3) := by decide +kernel
theorem dX5_next_116 : decode cX5_next 116 = .ok (.aload_n 0, 1) := by decide +kernel
theorem dX5_next_117 : decode cX5_next 117 = .ok (.iconst 0, 1) := by decide +kernel
theorem dX5_next_118 : decode cX5_next 118 = .ok (.aload_n 0, 1) := by decide +kernel
theorem dX5_next_119 : decode cX5_next 119 = .ok (.getfield 21, 3) := by decide +kernel
theorem dX5_next_122 : decode cX5_next 122 = .ok (.getfield 137, 3) := by decide +kernel
theorem dX5_next_125 : decode cX5_next 125 = .ok (.iconst 0, 1) := by decide +kernel
theorem dX5_next_126 : decode cX5_next 126 = .ok (.iconst 0, 1) := by decide +kernel
theorem dX5_next_127 : decode cX5_next 127 = .ok (.invokevirtual 209, 3) := by decide +kernel
theorem dX5_next_130 : decode cX5_next 130 = .ok (.goto 5, 3) := by decide +kernel
theorem dX5_next_133 : decode cX5_next 133 = .ok (.iconst 0, 1) := by decide +kernel
