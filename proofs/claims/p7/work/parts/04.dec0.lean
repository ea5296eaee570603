/-! written by program (wip/gen) -/
theorem dX5_isEnded_0 : decode cX5_isEnded 0 = .ok (.aload_n 0, 1) := by decide +kernel
theorem dX5_isEnded_1 : decode cX5_isEnded 1 = .ok (.getfield 60, 3) := by decide +kernel
theorem dX5_isEnded_4 : decode cX5_isEnded 4 = .ok (.ifCond .eq 12, 3) := by decide +kernel
theorem dX5_isEnded_7 : decode cX5_isEnded 7 = .ok (.aload_n 0, 1) := by decide +kernel
theorem dX5_isEnded_8 : decode cX5_isEnded 8 = .ok (.getfield 60, 3) := by decide +kernel
theorem dX5_isEnded_11 : decode cX5_isEnded 11 = .ok (.bipush 11, 2) := by decide +kernel
theorem dX5_isEnded_13 : decode cX5_isEnded 13 = .ok (.if_icmp .ne 7, 3) := by decide +kernel
theorem dX5_isEnded_16 : decode cX5_isEnded 16 = .ok (.iconst 1, 1) := by decide +kernel
theorem dX5_isEnded_17 : decode cX5_isEnded 17 = .ok (.goto 4, 3) := by decide +kernel
theorem dX5_isEnded_20 : decode cX5_isEnded 20 = .ok (.iconst 0, 1) := by decide +kernel
theorem dX5_isEnded_21 : decode cX5_isEnded 21 = .ok (.ireturn, 1) := by decide +kernel
theorem dX2_windowIs_0 : decode cX2_windowIs 0 = .ok (.aload_n 0, 1) := by decide +kernel
theorem dX2_windowIs_1 : decode cX2_windowIs 1 = .ok (.iload_n 1, 1) := by decide +kernel
theorem dX2_windowIs_2 : decode cX2_windowIs 2 = .ok (.putfield 56, 3) := by decide +kernel
theorem dX2_windowIs_5 : decode cX2_windowIs 5 = .ok (.aload_n 0, 1) := by decide +kernel
theorem dX2_windowIs_6 : decode cX2_windowIs 6 = .ok (.iload_n 2, 1) := by decide +kernel
theorem dX2_windowIs_7 : decode cX2_windowIs 7 = .ok (.putfield 84, 3) := by decide +kernel
theorem dX2_windowIs_10 : decode cX2_windowIs 10 = .ok (.aload_n 0, 1) := by decide +kernel
theorem dX2_windowIs_11 : decode cX2_windowIs 11 = .ok (.iload_n 3, 1) := by decide +kernel
theorem dX2_windowIs_12 : decode cX2_windowIs 12 = .ok (.putfield 87, 3) := by decide +kernel
theorem dX2_windowIs_15 : decode cX2_windowIs 15 = .ok (.return_, 1) := by decide +kernel
theorem dX2_restart_0 : decode cX2_restart 0 = .ok (.aload_n 0, 1) := by decide +kernel
theorem dX2_restart_1 : decode cX2_restart 1 = .ok (.iconst 0, 1) := by decide +kernel
theorem dX2_restart_2 : decode cX2_restart 2 = .ok (.putfield 19, 3) := by decide +kernel
theorem dX2_restart_5 : decode cX2_restart 5 = .ok (.aload_n 0, 1) := by decide +kernel
theorem dX2_restart_6 : decode cX2_restart 6 = .ok (.iconst 0, 1) := by decide +kernel
theorem dX2_restart_7 : decode cX2_restart 7 = .ok (.putfield 22, 3) := by decide +kernel
theorem dX2_restart_10 : decode cX2_restart 10 = .ok (.aload_n 0, 1) := by decide +kernel
theorem dX2_restart_11 : decode cX2_restart 11 = .ok (.iconst 0, 1) := by decide +kernel
theorem dX2_restart_12 : decode cX2_restart 12 = .ok (.putfield 25, 3) := by decide +kernel
theorem dX2_restart_15 : decode cX2_restart 15 = .ok (.aload_n 0, 1) := by decide +kernel
theorem dX2_restart_16 : decode cX2_restart 16 = .ok (.iload_n 1, 1) := by decide +kernel
theorem dX2_restart_17 : decode cX2_restart 17 = .ok (.putfield 28, 3) := by decide +kernel
theorem dX2_restart_20 : decode cX2_restart 20 = .ok (.aload_n 0, 1) := by decide +kernel
theorem dX2_restart_21 : decode cX2_restart 21 = .ok (.iload_n 1, 1) := by decide +kernel
theorem dX2_restart_22 : decode cX2_restart 22 = .ok (.putfield 31, 3) := by decide +kernel
theorem dX2_restart_25 : decode cX2_restart 25 = .ok (.aload_n 0, 1) := by decide +kernel
theorem dX2_restart_26 : decode cX2_restart 26 = .ok (.iload_n 1, 1) := by decide +kernel
theorem dX2_restart_27 : decode cX2_restart 27 = .ok (.putfield 34, 3) := by decide +kernel
theorem dX2_restart_30 : decode cX2_restart 30 = .ok (.aload_n 0, 1) := by decide +kernel
theorem dX2_restart_31 : decode cX2_restart 31 = .ok (.iconst 0, 1) := by decide +kernel
theorem dX2_restart_32 : decode cX2_restart 32 = .ok (.putfield 37, 3) := by decide +kernel
theorem dX2_restart_35 : decode cX2_restart 35 = .ok (.aload_n 0, 1) := by decide +kernel
theorem dX2_restart_36 : decode cX2_restart 36 = .ok (.iconst 0, 1) := by decide +kernel
theorem dX2_restart_37 : decode cX2_restart 37 = .ok (.putfield 41, 3) := by decide +kernel
theorem dX2_restart_40 : decode cX2_restart 40 = .ok (.aload_n 0, 1) := by decide +kernel
theorem dX2_restart_41 : decode cX2_restart 41 = .ok (.iload_n 2, 1) := by decide +kernel
theorem dX2_restart_42 : decode cX2_restart 42 = .ok (.putfield 15, 3) := by decide +kernel
theorem dX2_restart_45 : decode cX2_restart 45 = .ok (.aload_n 0, 1) := by decide +kernel
theorem dX2_restart_46 : decode cX2_restart 46 = .ok (.iconst 0, 1) := by decide +kernel
theorem dX2_restart_47 : decode cX2_restart 47 = .ok (.iconst 0, 1) := by decide +kernel
theorem dX2_restart_48 : decode cX2_restart 48 = .ok (.iconst 0, 1) := by decide +kernel
theorem dX2_restart_49 : decode cX2_restart 49 = .ok (.invokevirtual 44, 3) := by decide +kernel
theorem dX2_restart_52 : decode cX2_restart 52 = .ok (.return_, 1) := by decide +kernel
theorem dXA_fill_0 : decode cXA_fill 0 = .ok (.iconst 0, 1) := by decide +kernel
theorem dXA_fill_1 : decode cXA_fill 1 = .ok (.istore_n 2, 1) := by decide +kernel
theorem dXA_fill_2 : decode cXA_fill 2 = .ok (.aload_n 0, 1) := by decide +kernel
theorem dXA_fill_3 : decode cXA_fill 3 = .ok (.arraylength, 1) := by decide +kernel
theorem dXA_fill_4 : decode cXA_fill 4 = .ok (.istore_n 3, 1) := by decide +kernel
theorem dXA_fill_5 : decode cXA_fill 5 = .ok (.iload_n 2, 1) := by decide +kernel
theorem dXA_fill_6 : decode cXA_fill 6 = .ok (.iload_n 3, 1) := by decide +kernel
theorem dXA_fill_7 : decode cXA_fill 7 = .ok (.if_icmp .ge 13, 3) := by decide +kernel
theorem dXA_fill_10 : decode cXA_fill 10 = .ok (.aload_n 0, 1) := by decide +kernel
theorem dXA_fill_11 : decode cXA_fill 11 = .ok (.iload_n 2, 1) := by decide +kernel
theorem dXA_fill_12 : decode cXA_fill 12 = .ok (.iload_n 1, 1) := by decide +kernel
theorem dXA_fill_13 : decode cXA_fill 13 = .ok (.iastore, 1) := by decide +kernel
theorem dXA_fill_14 : decode cXA_fill 14 = .ok (.iinc 2 1, 3) := by decide +kernel
theorem dXA_fill_17 : decode cXA_fill 17 = .ok (.goto (-12), 3) := by decide +kernel
theorem dXA_fill_20 : decode cXA_fill 20 = .ok (.return_, 1) := by decide +kernel
theorem dX1_restart_0 : decode cX1_restart 0 = .ok (.aload_n 0, 1) := by decide +kernel
theorem dX1_restart_1 : decode cX1_restart 1 = .ok (.getfield 9, 3) := by decide +kernel
theorem dX1_restart_4 : decode cX1_restart 4 = .ok (.iconst (-1), 1) := by decide +kernel
theorem dX1_restart_5 : decode cX1_restart 5 = .ok (.invokestatic 15, 3) := by decide +kernel
theorem dX1_restart_8 : decode cX1_restart 8 = .ok (.aload_n 0, 1) := by decide +kernel
theorem dX1_restart_9 : decode cX1_restart 9 = .ok (.iconst 0, 1) := by decide +kernel
theorem dX1_restart_10 : decode cX1_restart 10 = .ok (.putfield 21, 3) := by decide +kernel
theorem dX1_restart_13 : decode cX1_restart 13 = .ok (.aload_n 0, 1) := by decide +kernel
theorem dX1_restart_14 : decode cX1_restart 14 = .ok (.iconst 0, 1) := by decide +kernel
theorem dX1_restart_15 : decode cX1_restart 15 = .ok (.putfield 25, 3) := by decide +kernel
theorem dX1_restart_18 : decode cX1_restart 18 = .ok (.aload_n 0, 1) := by decide +kernel
theorem dX1_restart_19 : decode cX1_restart 19 = .ok (.iconst 0, 1) := by decide +kernel
theorem dX1_restart_20 : decode cX1_restart 20 = .ok (.putfield 29, 3) := by decide +kernel
theorem dX1_restart_23 : decode cX1_restart 23 = .ok (.aload_n 0, 1) := by decide +kernel
theorem dX1_restart_24 : decode cX1_restart 24 = .ok (.iconst 0, 1) := by decide +kernel
theorem dX1_restart_25 : decode cX1_restart 25 = .ok (.putfield 32, 3) := by decide +kernel
theorem dX1_restart_28 : decode cX1_restart 28 = .ok (.aload_n 0, 1) := by decide +kernel
theorem dX1_restart_29 : decode cX1_restart 29 = .ok (.iconst 0, 1) := by decide +kernel
theorem dX1_restart_30 : decode cX1_restart 30 = .ok (.putfield 35, 3) := by decide +kernel
theorem dX1_restart_33 : decode cX1_restart 33 = .ok (.aload_n 0, 1) := by decide +kernel
theorem dX1_restart_34 : decode cX1_restart 34 = .ok (.iconst 0, 1) := by decide +kernel
theorem dX1_restart_35 : decode cX1_restart 35 = .ok (.putfield 38, 3) := by decide +kernel
theorem dX1_restart_38 : decode cX1_restart 38 = .ok (.aload_n 0, 1) := by decide +kernel
theorem dX1_restart_39 : decode cX1_restart 39 = .ok (.iconst 0, 1) := by decide +kernel
theorem dX1_restart_40 : decode cX1_restart 40 = .ok (.putfield 41, 3) := by decide +kernel
theorem dX1_restart_43 : decode cX1_restart 43 = .ok (.return_, 1) := by decide +kernel
theorem dX4_restart_0 : decode cX4_restart 0 = .ok (.aload_n 0, 1) := by decide +kernel
theorem dX4_restart_1 : decode cX4_restart 1 = .ok (.iconst 0, 1) := by decide +kernel
theorem dX4_restart_2 : decode cX4_restart 2 = .ok (.putfield 13, 3) := by decide +kernel
theorem dX4_restart_5 : decode cX4_restart 5 = .ok (.aload_n 0, 1) := by decide +kernel
theorem dX4_restart_6 : decode cX4_restart 6 = .ok (.iconst 0, 1) := by decide +kernel
theorem dX4_restart_7 : decode cX4_restart 7 = .ok (.putfield 17, 3) := by decide +kernel
theorem dX4_restart_10 : decode cX4_restart 10 = .ok (.aload_n 0, 1) := by decide +kernel
theorem dX4_restart_11 : decode cX4_restart 11 = .ok (.iconst 0, 1) := by decide +kernel
theorem dX4_restart_12 : decode cX4_restart 12 = .ok (.putfield 20, 3) := by decide +kernel
theorem dX4_restart_15 : decode cX4_restart 15 = .ok (.aload_n 0, 1) := by decide +kernel
theorem dX4_restart_16 : decode cX4_restart 16 = .ok (.bipush 60, 2) := by decide +kernel
theorem dX4_restart_18 : decode cX4_restart 18 = .ok (.putfield 9, 3) := by decide +kernel
theorem dX4_restart_21 : decode cX4_restart 21 = .ok (.aload_n 0, 1) := by decide +kernel
theorem dX4_restart_22 : decode cX4_restart 22 = .ok (.iconst 0, 1) := by decide +kernel
theorem dX4_restart_23 : decode cX4_restart 23 = .ok (.putfield 23, 3) := by decide +kernel
theorem dX4_restart_26 : decode cX4_restart 26 = .ok (.aload_n 0, 1) := by decide +kernel
theorem dX4_restart_27 : decode cX4_restart 27 = .ok (.iconst 0, 1) := by decide +kernel
theorem dX4_restart_28 : decode cX4_restart 28 = .ok (.putfield 26, 3) := by decide +kernel
theorem dX4_restart_31 : decode cX4_restart 31 = .ok (.aload_n 0, 1) := by decide +kernel
theorem dX4_restart_32 : decode cX4_restart 32 = .ok (.iconst 0, 1) := by decide +kernel
theorem dX4_restart_33 : decode cX4_restart 33 = .ok (.putfield 29, 3) := by decide +kernel
theorem dX4_restart_36 : decode cX4_restart 36 = .ok (.aload_n 0, 1) := by decide +kernel
theorem dX4_restart_37 : decode cX4_restart 37 = .ok (.iconst 0, 1) := by decide +kernel
theorem dX4_restart_38 : decode cX4_restart 38 = .ok (.putfield 32, 3) := by decide +kernel
theorem dX4_restart_41 : decode cX4_restart 41 = .ok (.aload_n 0, 1) := by decide +kernel
theorem dX4_restart_42 : decode cX4_restart 42 = .ok (.iconst 0, 1) := by decide +kernel
theorem dX4_restart_43 : decode cX4_restart 43 = .ok (.putfield 35, 3) := by decide +kernel
theorem dX4_restart_46 : decode cX4_restart 46 = .ok (.aload_n 0, 1) := by decide +kernel
theorem dX4_restart_47 : decode cX4_restart 47 = .ok (.iconst 0, 1) := by decide +kernel
theorem dX4_restart_48 : decode cX4_restart 48 = .ok (.putfield 38, 3) := by decide +kernel
theorem dX4_restart_51 : decode cX4_restart 51 = .ok (.return_, 1) := by decide +kernel
theorem dX0_dropStream_0 : decode cX0_dropStream 0 = .ok (.aload_n 0, 1) := by decide +kernel
theorem dX0_dropStream_1 : decode cX0_dropStream 1 = .ok (.iconst 0, 1) := by decide +kernel
theorem dX0_dropStream_2 : decode cX0_dropStream 2 = .ok (.putfield 19, 3) := by decide +kernel
theorem dX0_dropStream_5 : decode cX0_dropStream 5 = .ok (.aload_n 0, 1) := by decide +kernel
theorem dX0_dropStream_6 : decode cX0_dropStream 6 = .ok (.iconst 0, 1) := by decide +kernel
theorem dX0_dropStream_7 : decode cX0_dropStream 7 = .ok (.putfield 22, 3) := by decide +kernel
theorem dX0_dropStream_10 : decode cX0_dropStream 10 = .ok (.aload_n 0, 1) := by decide +kernel
theorem dX0_dropStream_11 : decode cX0_dropStream 11 = .ok (.iconst 0, 1) := by decide +kernel
theorem dX0_dropStream_12 : decode cX0_dropStream 12 = .ok (.putfield 25, 3) := by decide +kernel
theorem dX0_dropStream_15 : decode cX0_dropStream 15 = .ok (.return_, 1) := by decide +kernel
theorem dX0_restart_0 : decode cX0_restart 0 = .ok (.aload_n 0, 1) := by decide +kernel
theorem dX0_restart_1 : decode cX0_restart 1 = .ok (.invokevirtual 7, 3) := by decide +kernel
theorem dX0_restart_4 : decode cX0_restart 4 = .ok (.aload_n 0, 1) := by decide +kernel
theorem dX0_restart_5 : decode cX0_restart 5 = .ok (.iconst 0, 1) := by decide +kernel
theorem dX0_restart_6 : decode cX0_restart 6 = .ok (.putfield 12, 3) := by decide +kernel
theorem dX0_restart_9 : decode cX0_restart 9 = .ok (.aload_n 0, 1) := by decide +kernel
theorem dX0_restart_10 : decode cX0_restart 10 = .ok (.iconst 0, 1) := by decide +kernel
theorem dX0_restart_11 : decode cX0_restart 11 = .ok (.putfield 16, 3) := by decide +kernel
theorem dX0_restart_14 : decode cX0_restart 14 = .ok (.return_, 1) := by decide +kernel
theorem dX5_openIsDue_0 : decode cX5_openIsDue 0 = .ok (.aload_n 0, 1) := by decide +kernel
theorem dX5_openIsDue_1 : decode cX5_openIsDue 1 = .ok (.getfield 21, 3) := by decide +kernel
theorem dX5_openIsDue_4 : decode cX5_openIsDue 4 = .ok (.aload_n 0, 1) := by decide +kernel
theorem dX5_openIsDue_5 : decode cX5_openIsDue 5 = .ok (.getfield 21, 3) := by decide +kernel
theorem dX5_openIsDue_8 : decode cX5_openIsDue 8 = .ok (.getfield 296, 3) := by decide +kernel
theorem dX5_openIsDue_11 : decode cX5_openIsDue 11 = .ok (.iconst 1, 1) := by decide +kernel
theorem dX5_openIsDue_12 : decode cX5_openIsDue 12 = .ok (.iadd, 1) := by decide +kernel
theorem dX5_openIsDue_13 : decode cX5_openIsDue 13 = .ok (.putfield 137, 3) := by decide +kernel
theorem dX5_openIsDue_16 : decode cX5_openIsDue 16 = .ok (.aload_n 0, 1) := by decide +kernel
theorem dX5_openIsDue_17 : decode cX5_openIsDue 17 = .ok (.getfield 42, 3) := by decide +kernel
theorem dX5_openIsDue_20 : decode cX5_openIsDue 20 = .ok (.iconst 1, 1) := by decide +kernel
theorem dX5_openIsDue_21 : decode cX5_openIsDue 21 = .ok (.putfield 173, 3) := by decide +kernel
theorem dX5_openIsDue_24 : decode cX5_openIsDue 24 = .ok (.return_, 1) := by decide +kernel
theorem dX5_startStream_0 : decode cX5_startStream 0 = .ok (.aload_n 0, 1) := by decide +kernel
theorem dX5_startStream_1 : decode cX5_startStream 1 = .ok (.getfield 21, 3) := by decide +kernel
theorem dX5_startStream_4 : decode cX5_startStream 4 = .ok (.iload_n 1, 1) := by decide +kernel
theorem dX5_startStream_5 : decode cX5_startStream 5 = .ok (.aload_n 0, 1) := by decide +kernel
theorem dX5_startStream_6 : decode cX5_startStream 6 = .ok (.getfield 9, 3) := by decide +kernel
theorem dX5_startStream_9 : decode cX5_startStream 9 = .ok (.invokevirtual 285, 3) := by decide +kernel
theorem dX5_startStream_12 : decode cX5_startStream 12 = .ok (.aload_n 0, 1) := by decide +kernel
theorem dX5_startStream_13 : decode cX5_startStream 13 = .ok (.getfield 28, 3) := by decide +kernel
theorem dX5_startStream_16 : decode cX5_startStream 16 = .ok (.invokevirtual 289, 3) := by decide +kernel
theorem dX5_startStream_19 : decode cX5_startStream 19 = .ok (.aload_n 0, 1) := by decide +kernel
theorem dX5_startStream_20 : decode cX5_startStream 20 = .ok (.getfield 35, 3) := by decide +kernel
theorem dX5_startStream_23 : decode cX5_startStream 23 = .ok (.invokevirtual 291, 3) := by decide +kernel
theorem dX5_startStream_26 : decode cX5_startStream 26 = .ok (.aload_n 0, 1) := by decide +kernel
theorem dX5_startStream_27 : decode cX5_startStream 27 = .ok (.getfield 42, 3) := by decide +kernel
theorem dX5_startStream_30 : decode cX5_startStream 30 = .ok (.invokevirtual 292, 3) := by decide +kernel
theorem dX5_startStream_33 : decode cX5_startStream 33 = .ok (.aload_n 0, 1) := by decide +kernel
theorem dX5_startStream_34 : decode cX5_startStream 34 = .ok (.iload_n 2, 1) := by decide +kernel
theorem dX5_startStream_35 : decode cX5_startStream 35 = .ok (.putfield 63, 3) := by decide +kernel
theorem dX5_startStream_38 : decode cX5_startStream 38 = .ok (.iload_n 2, 1) := by decide +kernel
theorem dX5_startStream_39 : decode cX5_startStream 39 = .ok (.ifCond .eq 11, 3) := by decide +kernel
theorem dX5_startStream_42 : decode cX5_startStream 42 = .ok (.aload_n 0, 1) := by decide +kernel
theorem dX5_startStream_43 : decode cX5_startStream 43 = .ok (.iconst 1, 1) := by decide +kernel
theorem dX5_startStream_44 : decode cX5_startStream 44 = .ok (.putfield 60, 3) := by decide +kernel
theorem dX5_startStream_47 : decode cX5_startStream 47 = .ok (.goto 12, 3) := by decide +kernel
theorem dX5_startStream_50 : decode cX5_startStream 50 = .ok (.aload_n 0, 1) := by decide +kernel
theorem dX5_startStream_51 : decode cX5_startStream 51 = .ok (.iconst 2, 1) := by decide +kernel
theorem dX5_startStream_52 : decode cX5_startStream 52 = .ok (.putfield 60, 3) := by decide +kernel
theorem dX5_startStream_55 : decode cX5_startStream 55 = .ok (.aload_n 0, 1) := by decide +kernel
theorem dX5_startStream_56 : decode cX5_startStream 56 = .ok (.invokevirtual 293, 3) := by decide +kernel
theorem dX5_startStream_59 : decode cX5_startStream 59 = .ok (.return_, 1) := by decide +kernel
theorem dX5_begin_0 : decode cX5_begin 0 = .ok (.aload_n 0, 1) := by decide +kernel
theorem dX5_begin_1 : decode cX5_begin 1 = .ok (.invokevirtual 69, 3) := by decide +kernel
theorem dX5_begin_4 : decode cX5_begin 4 = .ok (.ifCond .ne 13, 3) := by decide +kernel
theorem dX5_begin_7 : decode cX5_begin 7 = .ok (.new 73, 3) := by decide +kernel
theorem dX5_begin_10 : decode cX5_begin 10 = .ok (.dup, 1) := by decide +kernel
theorem dX5_begin_11 : decode cX5_begin 11 = .ok (.ldc 75, 2) := by decide +kernel
theorem dX5_begin_13 : decode cX5_begin 13 = .ok (.invokespecial 77, 3) := by decide +kernel
theorem dX5_begin_16 : decode cX5_begin 16 = .ok (.athrow, 1) := by decide +kernel
theorem dX5_begin_17 : decode cX5_begin 17 = .ok (.aload_n 0, 1) := by decide +kernel
theorem dX5_begin_18 : decode cX5_begin 18 = .ok (.iload_n 1, 1) := by decide +kernel
theorem dX5_begin_19 : decode cX5_begin 19 = .ok (.iload_n 2, 1) := by decide +kernel
theorem dX5_begin_20 : decode cX5_begin 20 = .ok (.invokevirtual 80, 3) := by decide +kernel
theorem dX5_begin_23 : decode cX5_begin 23 = .ok (.return_, 1) := by decide +kernel
theorem dX5_isHandful_0 : decode cX5_isHandful 0 = .ok (.iload_n 0, 1) := by decide +kernel
theorem dX5_isHandful_1 : decode cX5_isHandful 1 = .ok (.iconst 1, 1) := by decide +kernel
theorem dX5_isHandful_2 : decode cX5_isHandful 2 = .ok (.if_icmp .lt 13, 3) := by decide +kernel
theorem dX5_isHandful_5 : decode cX5_isHandful 5 = .ok (.iload_n 0, 1) := by decide +kernel
theorem dX5_isHandful_6 : decode cX5_isHandful 6 = .ok (.bipush 8, 2) := by decide +kernel
theorem dX5_isHandful_8 : decode cX5_isHandful 8 = .ok (.if_icmp .gt 7, 3) := by decide +kernel
theorem dX5_isHandful_11 : decode cX5_isHandful 11 = .ok (.iconst 1, 1) := by decide +kernel
theorem dX5_isHandful_12 : decode cX5_isHandful 12 = .ok (.goto 4, 3) := by decide +kernel
theorem dX5_isHandful_15 : decode cX5_isHandful 15 = .ok (.iconst 0, 1) := by decide +kernel
theorem dX5_isHandful_16 : decode cX5_isHandful 16 = .ok (.ireturn, 1) := by decide +kernel
theorem dX2_space_0 : decode cX2_space 0 = .ok (.sipush 2048, 3) := by decide +kernel
theorem dX2_space_3 : decode cX2_space 3 = .ok (.aload_n 0, 1) := by decide +kernel
theorem dX2_space_4 : decode cX2_space 4 = .ok (.getfield 22, 3) := by decide +kernel
theorem dX2_space_7 : decode cX2_space 7 = .ok (.isub, 1) := by decide +kernel
theorem dX2_space_8 : decode cX2_space 8 = .ok (.ireturn, 1) := by decide +kernel
theorem dX5_maySendNew_0 : decode cX5_maySendNew 0 = .ok (.aload_n 0, 1) := by decide +kernel
theorem dX5_maySendNew_1 : decode cX5_maySendNew 1 = .ok (.getfield 60, 3) := by decide +kernel
theorem dX5_maySendNew_4 : decode cX5_maySendNew 4 = .ok (.iconst 4, 1) := by decide +kernel
theorem dX5_maySendNew_5 : decode cX5_maySendNew 5 = .ok (.if_icmp .eq 38, 3) := by decide +kernel
theorem dX5_maySendNew_8 : decode cX5_maySendNew 8 = .ok (.aload_n 0, 1) := by decide +kernel
theorem dX5_maySendNew_9 : decode cX5_maySendNew 9 = .ok (.getfield 60, 3) := by decide +kernel
theorem dX5_maySendNew_12 : decode cX5_maySendNew 12 = .ok (.iconst 5, 1) := by decide +kernel
theorem dX5_maySendNew_13 : decode cX5_maySendNew 13 = .ok (.if_icmp .eq 30, 3) := by decide +kernel
theorem dX5_maySendNew_16 : decode cX5_maySendNew 16 = .ok (.aload_n 0, 1) := by decide +kernel
theorem dX5_maySendNew_17 : decode cX5_maySendNew 17 = .ok (.getfield 60, 3) := by decide +kernel
theorem dX5_maySendNew_20 : decode cX5_maySendNew 20 = .ok (.bipush 7, 2) := by decide +kernel
theorem dX5_maySendNew_22 : decode cX5_maySendNew 22 = .ok (.if_icmp .eq 21, 3) := by decide +kernel
theorem dX5_maySendNew_25 : decode cX5_maySendNew 25 = .ok (.aload_n 0, 1) := by decide +kernel
theorem dX5_maySendNew_26 : decode cX5_maySendNew 26 = .ok (.getfield 60, 3) := by decide +kernel
theorem dX5_maySendNew_29 : decode cX5_maySendNew 29 = .ok (.bipush 8, 2) := by decide +kernel
theorem dX5_maySendNew_31 : decode cX5_maySendNew 31 = .ok (.if_icmp .eq 12, 3) := by decide +kernel
theorem dX5_maySendNew_34 : decode cX5_maySendNew 34 = .ok (.aload_n 0, 1) := by decide +kernel
theorem dX5_maySendNew_35 : decode cX5_maySendNew 35 = .ok (.getfield 60, 3) := by decide +kernel
theorem dX5_maySendNew_38 : decode cX5_maySendNew 38 = .ok (.bipush 9, 2) := by decide +kernel
theorem dX5_maySendNew_40 : decode cX5_maySendNew 40 = .ok (.if_icmp .ne 7, 3) := by decide +kernel
theorem dX5_maySendNew_43 : decode cX5_maySendNew 43 = .ok (.iconst 1, 1) := by decide +kernel
theorem dX5_maySendNew_44 : decode cX5_maySendNew 44 = .ok (.goto 4, 3) := by decide +kernel
theorem dX5_maySendNew_47 : decode cX5_maySendNew 47 = .ok (.iconst 0, 1) := by decide +kernel
theorem dX5_maySendNew_48 : decode cX5_maySendNew 48 = .ok (.ireturn, 1) := by decide +kernel
theorem dX2_hasUnthanked_0 : decode cX2_hasUnthanked 0 = .ok (.aload_n 0, 1) := by decide +kernel
theorem dX2_hasUnthanked_1 : decode cX2_hasUnthanked 1 = .ok (.getfield 31, 3) := by decide +kernel
theorem dX2_hasUnthanked_4 : decode cX2_hasUnthanked 4 = .ok (.aload_n 0, 1) := by decide +kernel
theorem dX2_hasUnthanked_5 : decode cX2_hasUnthanked 5 = .ok (.getfield 34, 3) := by decide +kernel
theorem dX2_hasUnthanked_8 : decode cX2_hasUnthanked 8 = .ok (.if_icmp .eq 7, 3) := by decide +kernel
theorem dX2_hasUnthanked_11 : decode cX2_hasUnthanked 11 = .ok (.iconst 1, 1) := by decide +kernel
theorem dX2_hasUnthanked_12 : decode cX2_hasUnthanked 12 = .ok (.goto 4, 3) := by decide +kernel
theorem dX2_hasUnthanked_15 : decode cX2_hasUnthanked 15 = .ok (.iconst 0, 1) := by decide +kernel
theorem dX2_hasUnthanked_16 : decode cX2_hasUnthanked 16 = .ok (.ireturn, 1) := by decide +kernel
theorem dX2_unsent_0 : decode cX2_unsent 0 = .ok (.aload_n 0, 1) := by decide +kernel
theorem dX2_unsent_1 : decode cX2_unsent 1 = .ok (.getfield 22, 3) := by decide +kernel
theorem dX2_unsent_4 : decode cX2_unsent 4 = .ok (.aload_n 0, 1) := by decide +kernel
theorem dX2_unsent_5 : decode cX2_unsent 5 = .ok (.getfield 25, 3) := by decide +kernel
theorem dX2_unsent_8 : decode cX2_unsent 8 = .ok (.isub, 1) := by decide +kernel
theorem dX2_unsent_9 : decode cX2_unsent 9 = .ok (.ireturn, 1) := by decide +kernel
theorem dX2_hasNew_0 : decode cX2_hasNew 0 = .ok (.aload_n 0, 1) := by decide +kernel
theorem dX2_hasNew_1 : decode cX2_hasNew 1 = .ok (.invokevirtual 48, 3) := by decide +kernel
theorem dX2_hasNew_4 : decode cX2_hasNew 4 = .ok (.ifCond .gt 17, 3) := by decide +kernel
theorem dX2_hasNew_7 : decode cX2_hasNew 7 = .ok (.aload_n 0, 1) := by decide +kernel
theorem dX2_hasNew_8 : decode cX2_hasNew 8 = .ok (.getfield 37, 3) := by decide +kernel
theorem dX2_hasNew_11 : decode cX2_hasNew 11 = .ok (.ifCond .eq 14, 3) := by decide +kernel
theorem dX2_hasNew_14 : decode cX2_hasNew 14 = .ok (.aload_n 0, 1) := by decide +kernel
theorem dX2_hasNew_15 : decode cX2_hasNew 15 = .ok (.getfield 41, 3) := by decide +kernel
theorem dX2_hasNew_18 : decode cX2_hasNew 18 = .ok (.ifCond .ne 7, 3) := by decide +kernel
theorem dX2_hasNew_21 : decode cX2_hasNew 21 = .ok (.iconst 1, 1) := by decide +kernel
theorem dX2_hasNew_22 : decode cX2_hasNew 22 = .ok (.goto 4, 3) := by decide +kernel
theorem dX2_hasNew_25 : decode cX2_hasNew 25 = .ok (.iconst 0, 1) := by decide +kernel
theorem dX2_hasNew_26 : decode cX2_hasNew 26 = .ok (.ireturn, 1) := by decide +kernel
theorem dX4_setAlarm_0 : decode cX4_setAlarm 0 = .ok (.aload_n 0, 1) := by decide +kernel
theorem dX4_setAlarm_1 : decode cX4_setAlarm 1 = .ok (.iconst 1, 1) := by decide +kernel
theorem dX4_setAlarm_2 : decode cX4_setAlarm 2 = .ok (.putfield 13, 3) := by decide +kernel
theorem dX4_setAlarm_5 : decode cX4_setAlarm 5 = .ok (.aload_n 0, 1) := by decide +kernel
theorem dX4_setAlarm_6 : decode cX4_setAlarm 6 = .ok (.aload_n 0, 1) := by decide +kernel
theorem dX4_setAlarm_7 : decode cX4_setAlarm 7 = .ok (.getfield 41, 3) := by decide +kernel
theorem dX4_setAlarm_10 : decode cX4_setAlarm 10 = .ok (.aload_n 0, 1) := by decide +kernel
theorem dX4_setAlarm_11 : decode cX4_setAlarm 11 = .ok (.getfield 9, 3) := by decide +kernel
theorem dX4_setAlarm_14 : decode cX4_setAlarm 14 = .ok (.iadd, 1) := by decide +kernel
theorem dX4_setAlarm_15 : decode cX4_setAlarm 15 = .ok (.putfield 17, 3) := by decide +kernel
theorem dX4_setAlarm_18 : decode cX4_setAlarm 18 = .ok (.return_, 1) := by decide +kernel
theorem dX5_watchClosedWindow_0 : decode cX5_watchClosedWindow 0 = .ok (.aload_n 0, 1) := by decide +kernel
theorem dX5_watchClosedWindow_1 : decode cX5_watchClosedWindow 1 = .ok (.invokevirtual 185, 3) := by decide +kernel
theorem dX5_watchClosedWindow_4 : decode cX5_watchClosedWindow 4 = .ok (.ifCond .eq 50, 3) := by decide +kernel
theorem dX5_watchClosedWindow_7 : decode cX5_watchClosedWindow 7 = .ok (.aload_n 0, 1) := by decide +kernel
theorem dX5_watchClosedWindow_8 : decode cX5_watchClosedWindow 8 = .ok (.getfield 35, 3) := by decide +kernel
theorem dX5_watchClosedWindow_11 : decode cX5_watchClosedWindow 11 = .ok (.getfield 155, 3) := by decide +kernel
theorem dX5_watchClosedWindow_14 : decode cX5_watchClosedWindow 14 = .ok (.ifCond .ne 40, 3) := by decide +kernel
theorem dX5_watchClosedWindow_17 : decode cX5_watchClosedWindow 17 = .ok (.aload_n 0, 1) := by decide +kernel
theorem dX5_watchClosedWindow_18 : decode cX5_watchClosedWindow 18 = .ok (.getfield 21, 3) := by decide +kernel
theorem dX5_watchClosedWindow_21 : decode cX5_watchClosedWindow 21 = .ok (.invokevirtual 317, 3) := by decide +kernel
theorem dX5_watchClosedWindow_24 : decode cX5_watchClosedWindow 24 = .ok (.ifCond .ne 30, 3) := by decide +kernel
theorem dX5_watchClosedWindow_27 : decode cX5_watchClosedWindow 27 = .ok (.aload_n 0, 1) := by decide +kernel
theorem dX5_watchClosedWindow_28 : decode cX5_watchClosedWindow 28 = .ok (.getfield 21, 3) := by decide +kernel
theorem dX5_watchClosedWindow_31 : decode cX5_watchClosedWindow 31 = .ok (.getfield 262, 3) := by decide +kernel
theorem dX5_watchClosedWindow_34 : decode cX5_watchClosedWindow 34 = .ok (.ifCond .ne 20, 3) := by decide +kernel
theorem dX5_watchClosedWindow_37 : decode cX5_watchClosedWindow 37 = .ok (.aload_n 0, 1) := by decide +kernel
theorem dX5_watchClosedWindow_38 : decode cX5_watchClosedWindow 38 = .ok (.getfield 21, 3) := by decide +kernel
theorem dX5_watchClosedWindow_41 : decode cX5_watchClosedWindow 41 = .ok (.invokevirtual 326, 3) := by decide +kernel
theorem dX5_watchClosedWindow_44 : decode cX5_watchClosedWindow 44 = .ok (.ifCond .eq 10, 3) := by decide +kernel
theorem dX5_watchClosedWindow_47 : decode cX5_watchClosedWindow 47 = .ok (.aload_n 0, 1) := by decide +kernel
theorem dX5_watchClosedWindow_48 : decode cX5_watchClosedWindow 48 = .ok (.getfield 35, 3) := by decide +kernel
theorem dX5_watchClosedWindow_51 : decode cX5_watchClosedWindow 51 = .ok (.invokevirtual 323, 3) := by decide +kernel
theorem dX5_watchClosedWindow_54 : decode cX5_watchClosedWindow 54 = .ok (.return_, 1) := by decide +kernel
theorem dX5_byteOf_0 : decode cX5_byteOf 0 = .ok (.lload_n 0, 1) := by decide +kernel
theorem dX5_byteOf_1 : decode cX5_byteOf 1 = .ok (.bipush 8, 2) := by decide +kernel
theorem dX5_byteOf_3 : decode cX5_byteOf 3 = .ok (.iload_n 2, 1) := by decide +kernel
theorem dX5_byteOf_4 : decode cX5_byteOf 4 = .ok (.iconst 1, 1) := by decide +kernel
theorem dX5_byteOf_5 : decode cX5_byteOf 5 = .ok (.isub, 1) := by decide +kernel
theorem dX5_byteOf_6 : decode cX5_byteOf 6 = .ok (.iload_n 3, 1) := by decide +kernel
theorem dX5_byteOf_7 : decode cX5_byteOf 7 = .ok (.isub, 1) := by decide +kernel
theorem dX5_byteOf_8 : decode cX5_byteOf 8 = .ok (.imul, 1) := by decide +kernel
theorem dX5_byteOf_9 : decode cX5_byteOf 9 = .ok (.lushr, 1) := by decide +kernel
theorem dX5_byteOf_10 : decode cX5_byteOf 10 = .ok (.l2i, 1) := by decide +kernel
theorem dX5_byteOf_11 : decode cX5_byteOf 11 = .ok (.i2b, 1) := by decide +kernel
theorem dX5_byteOf_12 : decode cX5_byteOf 12 = .ok (.ireturn, 1) := by decide +kernel
theorem dX2_append_0 : decode cX2_append 0 = .ok (.aload_n 0, 1) := by decide +kernel
theorem dX2_append_1 : decode cX2_append 1 = .ok (.getfield 9, 3) := by decide +kernel
theorem dX2_append_4 : decode cX2_append 4 = .ok (.aload_n 0, 1) := by decide +kernel
theorem dX2_append_5 : decode cX2_append 5 = .ok (.getfield 19, 3) := by decide +kernel
theorem dX2_append_8 : decode cX2_append 8 = .ok (.aload_n 0, 1) := by decide +kernel
theorem dX2_append_9 : decode cX2_append 9 = .ok (.getfield 22, 3) := by decide +kernel
theorem dX2_append_12 : decode cX2_append 12 = .ok (.iadd, 1) := by decide +kernel
theorem dX2_append_13 : decode cX2_append 13 = .ok (.sipush 2047, 3) := by decide +kernel
theorem dX2_append_16 : decode cX2_append 16 = .ok (.iand, 1) := by decide +kernel
theorem dX2_append_17 : decode cX2_append 17 = .ok (.iload_n 1, 1) := by decide +kernel
theorem dX2_append_18 : decode cX2_append 18 = .ok (.bastore, 1) := by decide +kernel
theorem dX2_append_19 : decode cX2_append 19 = .ok (.aload_n 0, 1) := by decide +kernel
theorem dX2_append_20 : decode cX2_append 20 = .ok (.dup, 1) := by decide +kernel
theorem dX2_append_21 : decode cX2_append 21 = .ok (.getfield 22, 3) := by decide +kernel
theorem dX2_append_24 : decode cX2_append 24 = .ok (.iconst 1, 1) := by decide +kernel
theorem dX2_append_25 : decode cX2_append 25 = .ok (.iadd, 1) := by decide +kernel
theorem dX2_append_26 : decode cX2_append 26 = .ok (.putfield 22, 3) := by decide +kernel
theorem dX2_append_29 : decode cX2_append 29 = .ok (.return_, 1) := by decide +kernel
theorem dX5_write_0 : decode cX5_write 0 = .ok (.iload_n 3, 1) := by decide +kernel
theorem dX5_write_1 : decode cX5_write 1 = .ok (.invokestatic 84, 3) := by decide +kernel
theorem dX5_write_4 : decode cX5_write 4 = .ok (.ifCond .ne 13, 3) := by decide +kernel
theorem dX5_write_7 : decode cX5_write 7 = .ok (.new 88, 3) := by decide +kernel
theorem dX5_write_10 : decode cX5_write 10 = .ok (.dup, 1) := by decide +kernel
theorem dX5_write_11 : decode cX5_write 11 = .ok (.ldc 90, 2) := by decide +kernel
theorem dX5_write_13 : decode cX5_write 13 = .ok (.invokespecial 92, 3) := by decide +kernel
theorem dX5_write_16 : decode cX5_write 16 = .ok (.athrow, 1) := by decide +kernel
theorem dX5_write_17 : decode cX5_write 17 = .ok (.aload_n 0, 1) := by decide +kernel
theorem dX5_write_18 : decode cX5_write 18 = .ok (.getfield 21, 3) := by decide +kernel
theorem dX5_write_21 : decode cX5_write 21 = .ok (.getfield 93, 3) := by decide +kernel
theorem dX5_write_24 : decode cX5_write 24 = .ok (.ifCond .ne 18, 3) := by decide +kernel
theorem dX5_write_27 : decode cX5_write 27 = .ok (.aload_n 0, 1) := by decide +kernel
theorem dX5_write_28 : decode cX5_write 28 = .ok (.invokevirtual 69, 3) := by decide +kernel
theorem dX5_write_31 : decode cX5_write 31 = .ok (.ifCond .ne 11, 3) := by decide +kernel
theorem dX5_write_34 : decode cX5_write 34 = .ok (.aload_n 0, 1) := by decide +kernel
theorem dX5_write_35 : decode cX5_write 35 = .ok (.getfield 60, 3) := by decide +kernel
theorem dX5_write_38 : decode cX5_write 38 = .ok (.iconst 1, 1) := by decide +kernel
theorem dX5_write_39 : decode cX5_write 39 = .ok (.if_icmp .ne 13, 3) := by decide +kernel
theorem dX5_write_42 : decode cX5_write 42 = .ok (.new 73, 3) := by decide +kernel
theorem dX5_write_45 : decode cX5_write 45 = .ok (.dup, 1) := by decide +kernel
theorem dX5_write_46 : decode cX5_write 46 = .ok (.ldc 96, 2) := by decide +kernel
theorem dX5_write_48 : decode cX5_write 48 = .ok (.invokespecial 77, 3) := by decide +kernel
theorem dX5_write_51 : decode cX5_write 51 = .ok (.athrow, 1) := by decide +kernel
theorem dX5_write_52 : decode cX5_write 52 = .ok (.iload_n 3, 1) := by decide +kernel
theorem dX5_write_53 : decode cX5_write 53 = .ok (.aload_n 0, 1) := by decide +kernel
theorem dX5_write_54 : decode cX5_write 54 = .ok (.getfield 21, 3) := by decide +kernel
theorem dX5_write_57 : decode cX5_write 57 = .ok (.invokevirtual 98, 3) := by decide +kernel
theorem dX5_write_60 : decode cX5_write 60 = .ok (.invokestatic 102, 3) := by decide +kernel
theorem dX5_write_63 : decode cX5_write 63 = .ok (.istore 4, 2) := by decide +kernel
theorem dX5_write_65 : decode cX5_write 65 = .ok (.iconst 0, 1) := by decide +kernel
theorem dX5_write_66 : decode cX5_write 66 = .ok (.istore 5, 2) := by decide +kernel
theorem dX5_write_68 : decode cX5_write 68 = .ok (.iload 5, 2) := by decide +kernel
theorem dX5_write_70 : decode cX5_write 70 = .ok (.iload 4, 2) := by decide +kernel
theorem dX5_write_72 : decode cX5_write 72 = .ok (.if_icmp .ge 23, 3) := by decide +kernel
theorem dX5_write_75 : decode cX5_write 75 = .ok (.aload_n 0, 1) := by decide +kernel
theorem dX5_write_76 : decode cX5_write 76 = .ok (.getfield 21, 3) := by decide +kernel
theorem dX5_write_79 : decode cX5_write 79 = .ok (.lload_n 1, 1) := by decide +kernel
theorem dX5_write_80 : decode cX5_write 80 = .ok (.iload_n 3, 1) := by decide +kernel
theorem dX5_write_81 : decode cX5_write 81 = .ok (.iload 5, 2) := by decide +kernel
theorem dX5_write_83 : decode cX5_write 83 = .ok (.invokestatic 108, 3) := by decide +kernel
theorem dX5_write_86 : decode cX5_write 86 = .ok (.invokevirtual 112, 3) := by decide +kernel
theorem dX5_write_89 : decode cX5_write 89 = .ok (.iinc 5 1, 3) := by decide +kernel
theorem dX5_write_92 : decode cX5_write 92 = .ok (.goto (-24), 3) := by decide +kernel
theorem dX5_write_95 : decode cX5_write 95 = .ok (.aload_n 0, 1) := by decide +kernel
theorem dX5_write_96 : decode cX5_write 96 = .ok (.invokevirtual 116, 3) := by decide +kernel
theorem dX5_write_99 : decode cX5_write 99 = .ok (.iload 4, 2) := by decide +kernel
theorem dX5_write_101 : decode cX5_write 101 = .ok (.ireturn, 1) := by decide +kernel
theorem dX1_room_0 : decode cX1_room 0 = .ok (.sipush 2048, 3) := by decide +kernel
theorem dX1_room_3 : decode cX1_room 3 = .ok (.aload_n 0, 1) := by decide +kernel
theorem dX1_room_4 : decode cX1_room 4 = .ok (.getfield 29, 3) := by decide +kernel
theorem dX1_room_7 : decode cX1_room 7 = .ok (.isub, 1) := by decide +kernel
theorem dX1_room_8 : decode cX1_room 8 = .ok (.ireturn, 1) := by decide +kernel
theorem dX1_takeByte_0 : decode cX1_takeByte 0 = .ok (.aload_n 0, 1) := by decide +kernel
theorem dX1_takeByte_1 : decode cX1_takeByte 1 = .ok (.getfield 32, 3) := by decide +kernel
theorem dX1_takeByte_4 : decode cX1_takeByte 4 = .ok (.sipush 2047, 3) := by decide +kernel
theorem dX1_takeByte_7 : decode cX1_takeByte 7 = .ok (.iand, 1) := by decide +kernel
theorem dX1_takeByte_8 : decode cX1_takeByte 8 = .ok (.istore_n 1, 1) := by decide +kernel
theorem dX1_takeByte_9 : decode cX1_takeByte 9 = .ok (.aload_n 0, 1) := by decide +kernel
theorem dX1_takeByte_10 : decode cX1_takeByte 10 = .ok (.getfield 9, 3) := by decide +kernel
theorem dX1_takeByte_13 : decode cX1_takeByte 13 = .ok (.iload_n 1, 1) := by decide +kernel
theorem dX1_takeByte_14 : decode cX1_takeByte 14 = .ok (.iaload, 1) := by decide +kernel
theorem dX1_takeByte_15 : decode cX1_takeByte 15 = .ok (.istore_n 2, 1) := by decide +kernel
theorem dX1_takeByte_16 : decode cX1_takeByte 16 = .ok (.aload_n 0, 1) := by decide +kernel
theorem dX1_takeByte_17 : decode cX1_takeByte 17 = .ok (.getfield 9, 3) := by decide +kernel
theorem dX1_takeByte_20 : decode cX1_takeByte 20 = .ok (.iload_n 1, 1) := by decide +kernel
theorem dX1_takeByte_21 : decode cX1_takeByte 21 = .ok (.iconst (-1), 1) := by decide +kernel
theorem dX1_takeByte_22 : decode cX1_takeByte 22 = .ok (.iastore, 1) := by decide +kernel
