/-! written by program (wip/gen) -/
theorem dX1_takeByte_23 : decode cX1_takeByte 23 = .ok (.aload_n 0, 1) := by decide +kernel
theorem dX1_takeByte_24 : decode cX1_takeByte 24 = .ok (.dup, 1) := by decide +kernel
theorem dX1_takeByte_25 : decode cX1_takeByte 25 = .ok (.getfield 32, 3) := by decide +kernel
theorem dX1_takeByte_28 : decode cX1_takeByte 28 = .ok (.iconst 1, 1) := by decide +kernel
theorem dX1_takeByte_29 : decode cX1_takeByte 29 = .ok (.iadd, 1) := by decide +kernel
theorem dX1_takeByte_30 : decode cX1_takeByte 30 = .ok (.putfield 32, 3) := by decide +kernel
theorem dX1_takeByte_33 : decode cX1_takeByte 33 = .ok (.aload_n 0, 1) := by decide +kernel
theorem dX1_takeByte_34 : decode cX1_takeByte 34 = .ok (.dup, 1) := by decide +kernel
theorem dX1_takeByte_35 : decode cX1_takeByte 35 = .ok (.getfield 29, 3) := by decide +kernel
theorem dX1_takeByte_38 : decode cX1_takeByte 38 = .ok (.iconst 1, 1) := by decide +kernel
theorem dX1_takeByte_39 : decode cX1_takeByte 39 = .ok (.isub, 1) := by decide +kernel
theorem dX1_takeByte_40 : decode cX1_takeByte 40 = .ok (.putfield 29, 3) := by decide +kernel
theorem dX1_takeByte_43 : decode cX1_takeByte 43 = .ok (.iload_n 2, 1) := by decide +kernel
theorem dX1_takeByte_44 : decode cX1_takeByte 44 = .ok (.ireturn, 1) := by decide +kernel
theorem dX5_mayTakeBytes_0 : decode cX5_mayTakeBytes 0 = .ok (.aload_n 0, 1) := by decide +kernel
theorem dX5_mayTakeBytes_1 : decode cX5_mayTakeBytes 1 = .ok (.getfield 60, 3) := by decide +kernel
theorem dX5_mayTakeBytes_4 : decode cX5_mayTakeBytes 4 = .ok (.iconst 4, 1) := by decide +kernel
theorem dX5_mayTakeBytes_5 : decode cX5_mayTakeBytes 5 = .ok (.if_icmp .eq 20, 3) := by decide +kernel
theorem dX5_mayTakeBytes_8 : decode cX5_mayTakeBytes 8 = .ok (.aload_n 0, 1) := by decide +kernel
theorem dX5_mayTakeBytes_9 : decode cX5_mayTakeBytes 9 = .ok (.getfield 60, 3) := by decide +kernel
theorem dX5_mayTakeBytes_12 : decode cX5_mayTakeBytes 12 = .ok (.iconst 5, 1) := by decide +kernel
theorem dX5_mayTakeBytes_13 : decode cX5_mayTakeBytes 13 = .ok (.if_icmp .eq 12, 3) := by decide +kernel
theorem dX5_mayTakeBytes_16 : decode cX5_mayTakeBytes 16 = .ok (.aload_n 0, 1) := by decide +kernel
theorem dX5_mayTakeBytes_17 : decode cX5_mayTakeBytes 17 = .ok (.getfield 60, 3) := by decide +kernel
theorem dX5_mayTakeBytes_20 : decode cX5_mayTakeBytes 20 = .ok (.bipush 6, 2) := by decide +kernel
theorem dX5_mayTakeBytes_22 : decode cX5_mayTakeBytes 22 = .ok (.if_icmp .ne 7, 3) := by decide +kernel
theorem dX5_mayTakeBytes_25 : decode cX5_mayTakeBytes 25 = .ok (.iconst 1, 1) := by decide +kernel
theorem dX5_mayTakeBytes_26 : decode cX5_mayTakeBytes 26 = .ok (.goto 4, 3) := by decide +kernel
theorem dX5_mayTakeBytes_29 : decode cX5_mayTakeBytes 29 = .ok (.iconst 0, 1) := by decide +kernel
theorem dX5_mayTakeBytes_30 : decode cX5_mayTakeBytes 30 = .ok (.ireturn, 1) := by decide +kernel
theorem dX5_readByte_0 : decode cX5_readByte 0 = .ok (.aload_n 0, 1) := by decide +kernel
theorem dX5_readByte_1 : decode cX5_readByte 1 = .ok (.getfield 21, 3) := by decide +kernel
theorem dX5_readByte_4 : decode cX5_readByte 4 = .ok (.getfield 273, 3) := by decide +kernel
theorem dX5_readByte_7 : decode cX5_readByte 7 = .ok (.sipush 1024, 3) := by decide +kernel
theorem dX5_readByte_10 : decode cX5_readByte 10 = .ok (.invokestatic 102, 3) := by decide +kernel
theorem dX5_readByte_13 : decode cX5_readByte 13 = .ok (.istore_n 1, 1) := by decide +kernel
theorem dX5_readByte_14 : decode cX5_readByte 14 = .ok (.aload_n 0, 1) := by decide +kernel
theorem dX5_readByte_15 : decode cX5_readByte 15 = .ok (.getfield 28, 3) := by decide +kernel
theorem dX5_readByte_18 : decode cX5_readByte 18 = .ok (.invokevirtual 263, 3) := by decide +kernel
theorem dX5_readByte_21 : decode cX5_readByte 21 = .ok (.iload_n 1, 1) := by decide +kernel
theorem dX5_readByte_22 : decode cX5_readByte 22 = .ok (.if_icmp .ge 7, 3) := by decide +kernel
theorem dX5_readByte_25 : decode cX5_readByte 25 = .ok (.iconst 1, 1) := by decide +kernel
theorem dX5_readByte_26 : decode cX5_readByte 26 = .ok (.goto 4, 3) := by decide +kernel
theorem dX5_readByte_29 : decode cX5_readByte 29 = .ok (.iconst 0, 1) := by decide +kernel
theorem dX5_readByte_30 : decode cX5_readByte 30 = .ok (.istore_n 2, 1) := by decide +kernel
theorem dX5_readByte_31 : decode cX5_readByte 31 = .ok (.aload_n 0, 1) := by decide +kernel
theorem dX5_readByte_32 : decode cX5_readByte 32 = .ok (.getfield 28, 3) := by decide +kernel
theorem dX5_readByte_35 : decode cX5_readByte 35 = .ok (.invokevirtual 305, 3) := by decide +kernel
theorem dX5_readByte_38 : decode cX5_readByte 38 = .ok (.istore_n 3, 1) := by decide +kernel
theorem dX5_readByte_39 : decode cX5_readByte 39 = .ok (.iload_n 2, 1) := by decide +kernel
theorem dX5_readByte_40 : decode cX5_readByte 40 = .ok (.ifCond .eq 29, 3) := by decide +kernel
theorem dX5_readByte_43 : decode cX5_readByte 43 = .ok (.aload_n 0, 1) := by decide +kernel
theorem dX5_readByte_44 : decode cX5_readByte 44 = .ok (.getfield 28, 3) := by decide +kernel
theorem dX5_readByte_47 : decode cX5_readByte 47 = .ok (.invokevirtual 263, 3) := by decide +kernel
theorem dX5_readByte_50 : decode cX5_readByte 50 = .ok (.iload_n 1, 1) := by decide +kernel
theorem dX5_readByte_51 : decode cX5_readByte 51 = .ok (.if_icmp .lt 18, 3) := by decide +kernel
theorem dX5_readByte_54 : decode cX5_readByte 54 = .ok (.aload_n 0, 1) := by decide +kernel
theorem dX5_readByte_55 : decode cX5_readByte 55 = .ok (.invokevirtual 308, 3) := by decide +kernel
theorem dX5_readByte_58 : decode cX5_readByte 58 = .ok (.ifCond .eq 11, 3) := by decide +kernel
theorem dX5_readByte_61 : decode cX5_readByte 61 = .ok (.aload_n 0, 1) := by decide +kernel
theorem dX5_readByte_62 : decode cX5_readByte 62 = .ok (.getfield 42, 3) := by decide +kernel
theorem dX5_readByte_65 : decode cX5_readByte 65 = .ok (.iconst 1, 1) := by decide +kernel
theorem dX5_readByte_66 : decode cX5_readByte 66 = .ok (.putfield 206, 3) := by decide +kernel
theorem dX5_readByte_69 : decode cX5_readByte 69 = .ok (.iload_n 3, 1) := by decide +kernel
theorem dX5_readByte_70 : decode cX5_readByte 70 = .ok (.ireturn, 1) := by decide +kernel
theorem dX5_read_0 : decode cX5_read 0 = .ok (.aload_n 0, 1) := by decide +kernel
theorem dX5_read_1 : decode cX5_read 1 = .ok (.getfield 28, 3) := by decide +kernel
theorem dX5_read_4 : decode cX5_read 4 = .ok (.getfield 119, 3) := by decide +kernel
theorem dX5_read_7 : decode cX5_read 7 = .ok (.ifCond .le 8, 3) := by decide +kernel
theorem dX5_read_10 : decode cX5_read 10 = .ok (.aload_n 0, 1) := by decide +kernel
theorem dX5_read_11 : decode cX5_read 11 = .ok (.invokevirtual 122, 3) := by decide +kernel
theorem dX5_read_14 : decode cX5_read 14 = .ok (.ireturn, 1) := by decide +kernel
theorem dX5_read_15 : decode cX5_read 15 = .ok (.aload_n 0, 1) := by decide +kernel
theorem dX5_read_16 : decode cX5_read 16 = .ok (.getfield 28, 3) := by decide +kernel
theorem dX5_read_19 : decode cX5_read 19 = .ok (.getfield 125, 3) := by decide +kernel
theorem dX5_read_22 : decode cX5_read 22 = .ok (.ifCond .eq 6, 3) := by decide +kernel
theorem dX5_read_25 : decode cX5_read 25 = .ok (.bipush (-2), 2) := by decide +kernel
theorem dX5_read_27 : decode cX5_read 27 = .ok (.ireturn, 1) := by decide +kernel
theorem dX5_read_28 : decode cX5_read 28 = .ok (.aload_n 0, 1) := by decide +kernel
theorem dX5_read_29 : decode cX5_read 29 = .ok (.invokevirtual 69, 3) := by decide +kernel
theorem dX5_read_32 : decode cX5_read 32 = .ok (.ifCond .ne 11, 3) := by decide +kernel
theorem dX5_read_35 : decode cX5_read 35 = .ok (.aload_n 0, 1) := by decide +kernel
theorem dX5_read_36 : decode cX5_read 36 = .ok (.getfield 60, 3) := by decide +kernel
theorem dX5_read_39 : decode cX5_read 39 = .ok (.iconst 1, 1) := by decide +kernel
theorem dX5_read_40 : decode cX5_read 40 = .ok (.if_icmp .ne 13, 3) := by decide +kernel
theorem dX5_read_43 : decode cX5_read 43 = .ok (.new 73, 3) := by decide +kernel
theorem dX5_read_46 : decode cX5_read 46 = .ok (.dup, 1) := by decide +kernel
theorem dX5_read_47 : decode cX5_read 47 = .ok (.ldc 128, 2) := by decide +kernel
theorem dX5_read_49 : decode cX5_read 49 = .ok (.invokespecial 77, 3) := by decide +kernel
theorem dX5_read_52 : decode cX5_read 52 = .ok (.athrow, 1) := by decide +kernel
theorem dX5_read_53 : decode cX5_read 53 = .ok (.iconst (-1), 1) := by decide +kernel
theorem dX5_read_54 : decode cX5_read 54 = .ok (.ireturn, 1) := by decide +kernel
theorem dX5_beginQuiet_0 : decode cX5_beginQuiet 0 = .ok (.aload_n 0, 1) := by decide +kernel
theorem dX5_beginQuiet_1 : decode cX5_beginQuiet 1 = .ok (.aload_n 0, 1) := by decide +kernel
theorem dX5_beginQuiet_2 : decode cX5_beginQuiet 2 = .ok (.getfield 35, 3) := by decide +kernel
theorem dX5_beginQuiet_5 : decode cX5_beginQuiet 5 = .ok (.getfield 150, 3) := by decide +kernel
theorem dX5_beginQuiet_8 : decode cX5_beginQuiet 8 = .ok (.aload_n 0, 1) := by decide +kernel
theorem dX5_beginQuiet_9 : decode cX5_beginQuiet 9 = .ok (.getfield 13, 3) := by decide +kernel
theorem dX5_beginQuiet_12 : decode cX5_beginQuiet 12 = .ok (.iadd, 1) := by decide +kernel
theorem dX5_beginQuiet_13 : decode cX5_beginQuiet 13 = .ok (.putfield 66, 3) := by decide +kernel
theorem dX5_beginQuiet_16 : decode cX5_beginQuiet 16 = .ok (.return_, 1) := by decide +kernel
theorem dX5_halt_0 : decode cX5_halt 0 = .ok (.aload_n 0, 1) := by decide +kernel
theorem dX5_halt_1 : decode cX5_halt 1 = .ok (.iload_n 1, 1) := by decide +kernel
theorem dX5_halt_2 : decode cX5_halt 2 = .ok (.putfield 60, 3) := by decide +kernel
theorem dX5_halt_5 : decode cX5_halt 5 = .ok (.aload_n 0, 1) := by decide +kernel
theorem dX5_halt_6 : decode cX5_halt 6 = .ok (.getfield 35, 3) := by decide +kernel
theorem dX5_halt_9 : decode cX5_halt 9 = .ok (.iconst 0, 1) := by decide +kernel
theorem dX5_halt_10 : decode cX5_halt 10 = .ok (.putfield 155, 3) := by decide +kernel
theorem dX5_halt_13 : decode cX5_halt 13 = .ok (.aload_n 0, 1) := by decide +kernel
theorem dX5_halt_14 : decode cX5_halt 14 = .ok (.getfield 42, 3) := by decide +kernel
theorem dX5_halt_17 : decode cX5_halt 17 = .ok (.invokevirtual 299, 3) := by decide +kernel
theorem dX5_halt_20 : decode cX5_halt 20 = .ok (.iload_n 1, 1) := by decide +kernel
theorem dX5_halt_21 : decode cX5_halt 21 = .ok (.bipush 10, 2) := by decide +kernel
theorem dX5_halt_23 : decode cX5_halt 23 = .ok (.if_icmp .ne 10, 3) := by decide +kernel
theorem dX5_halt_26 : decode cX5_halt 26 = .ok (.aload_n 0, 1) := by decide +kernel
theorem dX5_halt_27 : decode cX5_halt 27 = .ok (.invokevirtual 302, 3) := by decide +kernel
theorem dX5_halt_30 : decode cX5_halt 30 = .ok (.goto 11, 3) := by decide +kernel
theorem dX5_halt_33 : decode cX5_halt 33 = .ok (.aload_n 0, 1) := by decide +kernel
theorem dX5_halt_34 : decode cX5_halt 34 = .ok (.getfield 42, 3) := by decide +kernel
theorem dX5_halt_37 : decode cX5_halt 37 = .ok (.iconst 0, 1) := by decide +kernel
theorem dX5_halt_38 : decode cX5_halt 38 = .ok (.putfield 206, 3) := by decide +kernel
theorem dX5_halt_41 : decode cX5_halt 41 = .ok (.return_, 1) := by decide +kernel
theorem dX5_close_0 : decode cX5_close 0 = .ok (.aload_n 0, 1) := by decide +kernel
theorem dX5_close_1 : decode cX5_close 1 = .ok (.getfield 21, 3) := by decide +kernel
theorem dX5_close_4 : decode cX5_close 4 = .ok (.getfield 93, 3) := by decide +kernel
theorem dX5_close_7 : decode cX5_close 7 = .ok (.ifCond .ne 10, 3) := by decide +kernel
theorem dX5_close_10 : decode cX5_close 10 = .ok (.aload_n 0, 1) := by decide +kernel
theorem dX5_close_11 : decode cX5_close 11 = .ok (.invokevirtual 69, 3) := by decide +kernel
theorem dX5_close_14 : decode cX5_close 14 = .ok (.ifCond .eq 13, 3) := by decide +kernel
theorem dX5_close_17 : decode cX5_close 17 = .ok (.new 73, 3) := by decide +kernel
theorem dX5_close_20 : decode cX5_close 20 = .ok (.dup, 1) := by decide +kernel
theorem dX5_close_21 : decode cX5_close 21 = .ok (.ldc 130, 2) := by decide +kernel
theorem dX5_close_23 : decode cX5_close 23 = .ok (.invokespecial 77, 3) := by decide +kernel
theorem dX5_close_26 : decode cX5_close 26 = .ok (.athrow, 1) := by decide +kernel
theorem dX5_close_27 : decode cX5_close 27 = .ok (.aload_n 0, 1) := by decide +kernel
theorem dX5_close_28 : decode cX5_close 28 = .ok (.getfield 21, 3) := by decide +kernel
theorem dX5_close_31 : decode cX5_close 31 = .ok (.iconst 1, 1) := by decide +kernel
theorem dX5_close_32 : decode cX5_close 32 = .ok (.putfield 93, 3) := by decide +kernel
theorem dX5_close_35 : decode cX5_close 35 = .ok (.aload_n 0, 1) := by decide +kernel
theorem dX5_close_36 : decode cX5_close 36 = .ok (.getfield 60, 3) := by decide +kernel
theorem dX5_close_39 : decode cX5_close 39 = .ok (.iconst 1, 1) := by decide +kernel
theorem dX5_close_40 : decode cX5_close 40 = .ok (.if_icmp .eq 11, 3) := by decide +kernel
theorem dX5_close_43 : decode cX5_close 43 = .ok (.aload_n 0, 1) := by decide +kernel
theorem dX5_close_44 : decode cX5_close 44 = .ok (.getfield 60, 3) := by decide +kernel
theorem dX5_close_47 : decode cX5_close 47 = .ok (.iconst 2, 1) := by decide +kernel
theorem dX5_close_48 : decode cX5_close 48 = .ok (.if_icmp .ne 11, 3) := by decide +kernel
theorem dX5_close_51 : decode cX5_close 51 = .ok (.aload_n 0, 1) := by decide +kernel
theorem dX5_close_52 : decode cX5_close 52 = .ok (.iconst 0, 1) := by decide +kernel
theorem dX5_close_53 : decode cX5_close 53 = .ok (.invokevirtual 132, 3) := by decide +kernel
theorem dX5_close_56 : decode cX5_close 56 = .ok (.goto 34, 3) := by decide +kernel
theorem dX5_close_59 : decode cX5_close 59 = .ok (.aload_n 0, 1) := by decide +kernel
theorem dX5_close_60 : decode cX5_close 60 = .ok (.getfield 60, 3) := by decide +kernel
theorem dX5_close_63 : decode cX5_close 63 = .ok (.iconst 4, 1) := by decide +kernel
theorem dX5_close_64 : decode cX5_close 64 = .ok (.if_icmp .ne 11, 3) := by decide +kernel
theorem dX5_close_67 : decode cX5_close 67 = .ok (.aload_n 0, 1) := by decide +kernel
theorem dX5_close_68 : decode cX5_close 68 = .ok (.iconst 5, 1) := by decide +kernel
theorem dX5_close_69 : decode cX5_close 69 = .ok (.putfield 60, 3) := by decide +kernel
theorem dX5_close_72 : decode cX5_close 72 = .ok (.goto 18, 3) := by decide +kernel
theorem dX5_close_75 : decode cX5_close 75 = .ok (.aload_n 0, 1) := by decide +kernel
theorem dX5_close_76 : decode cX5_close 76 = .ok (.getfield 60, 3) := by decide +kernel
theorem dX5_close_79 : decode cX5_close 79 = .ok (.bipush 7, 2) := by decide +kernel
theorem dX5_close_81 : decode cX5_close 81 = .ok (.if_icmp .ne 9, 3) := by decide +kernel
theorem dX5_close_84 : decode cX5_close 84 = .ok (.aload_n 0, 1) := by decide +kernel
theorem dX5_close_85 : decode cX5_close 85 = .ok (.bipush 9, 2) := by decide +kernel
theorem dX5_close_87 : decode cX5_close 87 = .ok (.putfield 60, 3) := by decide +kernel
theorem dX5_close_90 : decode cX5_close 90 = .ok (.aload_n 0, 1) := by decide +kernel
theorem dX5_close_91 : decode cX5_close 91 = .ok (.invokevirtual 116, 3) := by decide +kernel
theorem dX5_close_94 : decode cX5_close 94 = .ok (.return_, 1) := by decide +kernel
theorem dX0_resetIs_0 : decode cX0_resetIs 0 = .ok (.aload_n 0, 1) := by decide +kernel
theorem dX0_resetIs_1 : decode cX0_resetIs 1 = .ok (.iconst 1, 1) := by decide +kernel
theorem dX0_resetIs_2 : decode cX0_resetIs 2 = .ok (.putfield 28, 3) := by decide +kernel
theorem dX0_resetIs_5 : decode cX0_resetIs 5 = .ok (.aload_n 0, 1) := by decide +kernel
theorem dX0_resetIs_6 : decode cX0_resetIs 6 = .ok (.iload_n 1, 1) := by decide +kernel
theorem dX0_resetIs_7 : decode cX0_resetIs 7 = .ok (.putfield 31, 3) := by decide +kernel
theorem dX0_resetIs_10 : decode cX0_resetIs 10 = .ok (.aload_n 0, 1) := by decide +kernel
theorem dX0_resetIs_11 : decode cX0_resetIs 11 = .ok (.iload_n 2, 1) := by decide +kernel
theorem dX0_resetIs_12 : decode cX0_resetIs 12 = .ok (.putfield 35, 3) := by decide +kernel
theorem dX0_resetIs_15 : decode cX0_resetIs 15 = .ok (.aload_n 0, 1) := by decide +kernel
theorem dX0_resetIs_16 : decode cX0_resetIs 16 = .ok (.iload_n 3, 1) := by decide +kernel
theorem dX0_resetIs_17 : decode cX0_resetIs 17 = .ok (.putfield 38, 3) := by decide +kernel
theorem dX0_resetIs_20 : decode cX0_resetIs 20 = .ok (.return_, 1) := by decide +kernel
theorem dX5_abort_0 : decode cX5_abort 0 = .ok (.aload_n 0, 1) := by decide +kernel
theorem dX5_abort_1 : decode cX5_abort 1 = .ok (.invokevirtual 69, 3) := by decide +kernel
theorem dX5_abort_4 : decode cX5_abort 4 = .ok (.ifCond .eq 13, 3) := by decide +kernel
theorem dX5_abort_7 : decode cX5_abort 7 = .ok (.new 73, 3) := by decide +kernel
theorem dX5_abort_10 : decode cX5_abort 10 = .ok (.dup, 1) := by decide +kernel
theorem dX5_abort_11 : decode cX5_abort 11 = .ok (.ldc 135, 2) := by decide +kernel
theorem dX5_abort_13 : decode cX5_abort 13 = .ok (.invokespecial 77, 3) := by decide +kernel
theorem dX5_abort_16 : decode cX5_abort 16 = .ok (.athrow, 1) := by decide +kernel
theorem dX5_abort_17 : decode cX5_abort 17 = .ok (.aload_n 0, 1) := by decide +kernel
theorem dX5_abort_18 : decode cX5_abort 18 = .ok (.getfield 60, 3) := by decide +kernel
theorem dX5_abort_21 : decode cX5_abort 21 = .ok (.iconst 1, 1) := by decide +kernel
theorem dX5_abort_22 : decode cX5_abort 22 = .ok (.if_icmp .eq 43, 3) := by decide +kernel
theorem dX5_abort_25 : decode cX5_abort 25 = .ok (.aload_n 0, 1) := by decide +kernel
theorem dX5_abort_26 : decode cX5_abort 26 = .ok (.getfield 60, 3) := by decide +kernel
theorem dX5_abort_29 : decode cX5_abort 29 = .ok (.iconst 2, 1) := by decide +kernel
theorem dX5_abort_30 : decode cX5_abort 30 = .ok (.if_icmp .eq 35, 3) := by decide +kernel
theorem dX5_abort_33 : decode cX5_abort 33 = .ok (.aload_n 0, 1) := by decide +kernel
theorem dX5_abort_34 : decode cX5_abort 34 = .ok (.getfield 60, 3) := by decide +kernel
theorem dX5_abort_37 : decode cX5_abort 37 = .ok (.bipush 10, 2) := by decide +kernel
theorem dX5_abort_39 : decode cX5_abort 39 = .ok (.if_icmp .eq 26, 3) := by decide +kernel
theorem dX5_abort_42 : decode cX5_abort 42 = .ok (.aload_n 0, 1) := by decide +kernel
theorem dX5_abort_43 : decode cX5_abort 43 = .ok (.getfield 42, 3) := by decide +kernel
theorem dX5_abort_46 : decode cX5_abort 46 = .ok (.bipush 12, 2) := by decide +kernel
theorem dX5_abort_48 : decode cX5_abort 48 = .ok (.aload_n 0, 1) := by decide +kernel
theorem dX5_abort_49 : decode cX5_abort 49 = .ok (.getfield 21, 3) := by decide +kernel
theorem dX5_abort_52 : decode cX5_abort 52 = .ok (.getfield 137, 3) := by decide +kernel
theorem dX5_abort_55 : decode cX5_abort 55 = .ok (.aload_n 0, 1) := by decide +kernel
theorem dX5_abort_56 : decode cX5_abort 56 = .ok (.getfield 28, 3) := by decide +kernel
theorem dX5_abort_59 : decode cX5_abort 59 = .ok (.getfield 140, 3) := by decide +kernel
theorem dX5_abort_62 : decode cX5_abort 62 = .ok (.invokevirtual 143, 3) := by decide +kernel
theorem dX5_abort_65 : decode cX5_abort 65 = .ok (.aload_n 0, 1) := by decide +kernel
theorem dX5_abort_66 : decode cX5_abort 66 = .ok (.bipush 11, 2) := by decide +kernel
theorem dX5_abort_68 : decode cX5_abort 68 = .ok (.invokevirtual 132, 3) := by decide +kernel
theorem dX5_abort_71 : decode cX5_abort 71 = .ok (.return_, 1) := by decide +kernel
theorem dX4_ticksToAlarm_0 : decode cX4_ticksToAlarm 0 = .ok (.aload_n 0, 1) := by decide +kernel
theorem dX4_ticksToAlarm_1 : decode cX4_ticksToAlarm 1 = .ok (.getfield 13, 3) := by decide +kernel
theorem dX4_ticksToAlarm_4 : decode cX4_ticksToAlarm 4 = .ok (.ifCond .eq 15, 3) := by decide +kernel
theorem dX4_ticksToAlarm_7 : decode cX4_ticksToAlarm 7 = .ok (.aload_n 0, 1) := by decide +kernel
theorem dX4_ticksToAlarm_8 : decode cX4_ticksToAlarm 8 = .ok (.getfield 17, 3) := by decide +kernel
theorem dX4_ticksToAlarm_11 : decode cX4_ticksToAlarm 11 = .ok (.aload_n 0, 1) := by decide +kernel
theorem dX4_ticksToAlarm_12 : decode cX4_ticksToAlarm 12 = .ok (.getfield 41, 3) := by decide +kernel
theorem dX4_ticksToAlarm_15 : decode cX4_ticksToAlarm 15 = .ok (.isub, 1) := by decide +kernel
theorem dX4_ticksToAlarm_16 : decode cX4_ticksToAlarm 16 = .ok (.goto 4, 3) := by decide +kernel
theorem dX4_ticksToAlarm_19 : decode cX4_ticksToAlarm 19 = .ok (.iconst 0, 1) := by decide +kernel
theorem dX4_ticksToAlarm_20 : decode cX4_ticksToAlarm 20 = .ok (.ireturn, 1) := by decide +kernel
theorem dX4_doubleWait_0 : decode cX4_doubleWait 0 = .ok (.aload_n 0, 1) := by decide +kernel
theorem dX4_doubleWait_1 : decode cX4_doubleWait 1 = .ok (.iconst 2, 1) := by decide +kernel
theorem dX4_doubleWait_2 : decode cX4_doubleWait 2 = .ok (.aload_n 0, 1) := by decide +kernel
theorem dX4_doubleWait_3 : decode cX4_doubleWait 3 = .ok (.getfield 9, 3) := by decide +kernel
theorem dX4_doubleWait_6 : decode cX4_doubleWait 6 = .ok (.imul, 1) := by decide +kernel
theorem dX4_doubleWait_7 : decode cX4_doubleWait 7 = .ok (.sipush 1200, 3) := by decide +kernel
theorem dX4_doubleWait_10 : decode cX4_doubleWait 10 = .ok (.invokestatic 47, 3) := by decide +kernel
theorem dX4_doubleWait_13 : decode cX4_doubleWait 13 = .ok (.putfield 9, 3) := by decide +kernel
theorem dX4_doubleWait_16 : decode cX4_doubleWait 16 = .ok (.return_, 1) := by decide +kernel
theorem dX5_takeAlarm_0 : decode cX5_takeAlarm 0 = .ok (.aload_n 0, 1) := by decide +kernel
theorem dX5_takeAlarm_1 : decode cX5_takeAlarm 1 = .ok (.getfield 35, 3) := by decide +kernel
theorem dX5_takeAlarm_4 : decode cX5_takeAlarm 4 = .ok (.dup, 1) := by decide +kernel
theorem dX5_takeAlarm_5 : decode cX5_takeAlarm 5 = .ok (.getfield 270, 3) := by decide +kernel
theorem dX5_takeAlarm_8 : decode cX5_takeAlarm 8 = .ok (.iconst 1, 1) := by decide +kernel
theorem dX5_takeAlarm_9 : decode cX5_takeAlarm 9 = .ok (.iadd, 1) := by decide +kernel
theorem dX5_takeAlarm_10 : decode cX5_takeAlarm 10 = .ok (.putfield 270, 3) := by decide +kernel
theorem dX5_takeAlarm_13 : decode cX5_takeAlarm 13 = .ok (.aload_n 0, 1) := by decide +kernel
theorem dX5_takeAlarm_14 : decode cX5_takeAlarm 14 = .ok (.getfield 35, 3) := by decide +kernel
theorem dX5_takeAlarm_17 : decode cX5_takeAlarm 17 = .ok (.getfield 270, 3) := by decide +kernel
theorem dX5_takeAlarm_20 : decode cX5_takeAlarm 20 = .ok (.bipush 8, 2) := by decide +kernel
theorem dX5_takeAlarm_22 : decode cX5_takeAlarm 22 = .ok (.if_icmp .le 10, 3) := by decide +kernel
theorem dX5_takeAlarm_25 : decode cX5_takeAlarm 25 = .ok (.aload_n 0, 1) := by decide +kernel
theorem dX5_takeAlarm_26 : decode cX5_takeAlarm 26 = .ok (.bipush 11, 2) := by decide +kernel
theorem dX5_takeAlarm_28 : decode cX5_takeAlarm 28 = .ok (.invokevirtual 132, 3) := by decide +kernel
theorem dX5_takeAlarm_31 : decode cX5_takeAlarm 31 = .ok (.return_, 1) := by decide +kernel
theorem dX5_takeAlarm_32 : decode cX5_takeAlarm 32 = .ok (.aload_n 0, 1) := by decide +kernel
theorem dX5_takeAlarm_33 : decode cX5_takeAlarm 33 = .ok (.getfield 60, 3) := by decide +kernel
theorem dX5_takeAlarm_36 : decode cX5_takeAlarm 36 = .ok (.iconst 2, 1) := by decide +kernel
theorem dX5_takeAlarm_37 : decode cX5_takeAlarm 37 = .ok (.if_icmp .eq 11, 3) := by decide +kernel
theorem dX5_takeAlarm_40 : decode cX5_takeAlarm 40 = .ok (.aload_n 0, 1) := by decide +kernel
theorem dX5_takeAlarm_41 : decode cX5_takeAlarm 41 = .ok (.getfield 60, 3) := by decide +kernel
theorem dX5_takeAlarm_44 : decode cX5_takeAlarm 44 = .ok (.iconst 3, 1) := by decide +kernel
theorem dX5_takeAlarm_45 : decode cX5_takeAlarm 45 = .ok (.if_icmp .ne 14, 3) := by decide +kernel
theorem dX5_takeAlarm_48 : decode cX5_takeAlarm 48 = .ok (.aload_n 0, 1) := by decide +kernel
theorem dX5_takeAlarm_49 : decode cX5_takeAlarm 49 = .ok (.getfield 42, 3) := by decide +kernel
theorem dX5_takeAlarm_52 : decode cX5_takeAlarm 52 = .ok (.iconst 1, 1) := by decide +kernel
theorem dX5_takeAlarm_53 : decode cX5_takeAlarm 53 = .ok (.putfield 173, 3) := by decide +kernel
theorem dX5_takeAlarm_56 : decode cX5_takeAlarm 56 = .ok (.goto 32, 3) := by decide +kernel
theorem dX5_takeAlarm_59 : decode cX5_takeAlarm 59 = .ok (.aload_n 0, 1) := by decide +kernel
theorem dX5_takeAlarm_60 : decode cX5_takeAlarm 60 = .ok (.getfield 21, 3) := by decide +kernel
theorem dX5_takeAlarm_63 : decode cX5_takeAlarm 63 = .ok (.invokevirtual 317, 3) := by decide +kernel
theorem dX5_takeAlarm_66 : decode cX5_takeAlarm 66 = .ok (.ifCond .eq 14, 3) := by decide +kernel
theorem dX5_takeAlarm_69 : decode cX5_takeAlarm 69 = .ok (.aload_n 0, 1) := by decide +kernel
theorem dX5_takeAlarm_70 : decode cX5_takeAlarm 70 = .ok (.getfield 42, 3) := by decide +kernel
theorem dX5_takeAlarm_73 : decode cX5_takeAlarm 73 = .ok (.iconst 1, 1) := by decide +kernel
theorem dX5_takeAlarm_74 : decode cX5_takeAlarm 74 = .ok (.putfield 179, 3) := by decide +kernel
theorem dX5_takeAlarm_77 : decode cX5_takeAlarm 77 = .ok (.goto 11, 3) := by decide +kernel
theorem dX5_takeAlarm_80 : decode cX5_takeAlarm 80 = .ok (.aload_n 0, 1) := by decide +kernel
theorem dX5_takeAlarm_81 : decode cX5_takeAlarm 81 = .ok (.getfield 42, 3) := by decide +kernel
theorem dX5_takeAlarm_84 : decode cX5_takeAlarm 84 = .ok (.iconst 1, 1) := by decide +kernel
theorem dX5_takeAlarm_85 : decode cX5_takeAlarm 85 = .ok (.putfield 200, 3) := by decide +kernel
theorem dX5_takeAlarm_88 : decode cX5_takeAlarm 88 = .ok (.aload_n 0, 1) := by decide +kernel
theorem dX5_takeAlarm_89 : decode cX5_takeAlarm 89 = .ok (.getfield 35, 3) := by decide +kernel
theorem dX5_takeAlarm_92 : decode cX5_takeAlarm 92 = .ok (.invokevirtual 320, 3) := by decide +kernel
theorem dX5_takeAlarm_95 : decode cX5_takeAlarm 95 = .ok (.aload_n 0, 1) := by decide +kernel
theorem dX5_takeAlarm_96 : decode cX5_takeAlarm 96 = .ok (.getfield 35, 3) := by decide +kernel
theorem dX5_takeAlarm_99 : decode cX5_takeAlarm 99 = .ok (.invokevirtual 323, 3) := by decide +kernel
theorem dX5_takeAlarm_102 : decode cX5_takeAlarm 102 = .ok (.return_, 1) := by decide +kernel
theorem dX5_takeEvents_0 : decode cX5_takeEvents 0 = .ok (.aload_n 0, 1) := by decide +kernel
theorem dX5_takeEvents_1 : decode cX5_takeEvents 1 = .ok (.getfield 60, 3) := by decide +kernel
theorem dX5_takeEvents_4 : decode cX5_takeEvents 4 = .ok (.bipush 10, 2) := by decide +kernel
theorem dX5_takeEvents_6 : decode cX5_takeEvents 6 = .ok (.if_icmp .ne 22, 3) := by decide +kernel
theorem dX5_takeEvents_9 : decode cX5_takeEvents 9 = .ok (.aload_n 0, 1) := by decide +kernel
theorem dX5_takeEvents_10 : decode cX5_takeEvents 10 = .ok (.getfield 35, 3) := by decide +kernel
theorem dX5_takeEvents_13 : decode cX5_takeEvents 13 = .ok (.getfield 150, 3) := by decide +kernel
theorem dX5_takeEvents_16 : decode cX5_takeEvents 16 = .ok (.aload_n 0, 1) := by decide +kernel
theorem dX5_takeEvents_17 : decode cX5_takeEvents 17 = .ok (.getfield 66, 3) := by decide +kernel
theorem dX5_takeEvents_20 : decode cX5_takeEvents 20 = .ok (.if_icmp .lt 8, 3) := by decide +kernel
theorem dX5_takeEvents_23 : decode cX5_takeEvents 23 = .ok (.aload_n 0, 1) := by decide +kernel
theorem dX5_takeEvents_24 : decode cX5_takeEvents 24 = .ok (.iconst 0, 1) := by decide +kernel
theorem dX5_takeEvents_25 : decode cX5_takeEvents 25 = .ok (.invokevirtual 132, 3) := by decide +kernel
theorem dX5_takeEvents_28 : decode cX5_takeEvents 28 = .ok (.aload_n 0, 1) := by decide +kernel
theorem dX5_takeEvents_29 : decode cX5_takeEvents 29 = .ok (.getfield 35, 3) := by decide +kernel
theorem dX5_takeEvents_32 : decode cX5_takeEvents 32 = .ok (.getfield 155, 3) := by decide +kernel
theorem dX5_takeEvents_35 : decode cX5_takeEvents 35 = .ok (.ifCond .eq 24, 3) := by decide +kernel
theorem dX5_takeEvents_38 : decode cX5_takeEvents 38 = .ok (.aload_n 0, 1) := by decide +kernel
theorem dX5_takeEvents_39 : decode cX5_takeEvents 39 = .ok (.getfield 35, 3) := by decide +kernel
theorem dX5_takeEvents_42 : decode cX5_takeEvents 42 = .ok (.getfield 150, 3) := by decide +kernel
theorem dX5_takeEvents_45 : decode cX5_takeEvents 45 = .ok (.aload_n 0, 1) := by decide +kernel
theorem dX5_takeEvents_46 : decode cX5_takeEvents 46 = .ok (.getfield 35, 3) := by decide +kernel
theorem dX5_takeEvents_49 : decode cX5_takeEvents 49 = .ok (.getfield 311, 3) := by decide +kernel
theorem dX5_takeEvents_52 : decode cX5_takeEvents 52 = .ok (.if_icmp .lt 7, 3) := by decide +kernel
theorem dX5_takeEvents_55 : decode cX5_takeEvents 55 = .ok (.aload_n 0, 1) := by decide +kernel
theorem dX5_takeEvents_56 : decode cX5_takeEvents 56 = .ok (.invokevirtual 314, 3) := by decide +kernel
theorem dX5_takeEvents_59 : decode cX5_takeEvents 59 = .ok (.return_, 1) := by decide +kernel
theorem dX5_run_0 : decode cX5_run 0 = .ok (.iload_n 1, 1) := by decide +kernel
theorem dX5_run_1 : decode cX5_run 1 = .ok (.iconst 1, 1) := by decide +kernel
theorem dX5_run_2 : decode cX5_run 2 = .ok (.if_icmp .lt 10, 3) := by decide +kernel
theorem dX5_run_5 : decode cX5_run 5 = .ok (.iload_n 1, 1) := by decide +kernel
theorem dX5_run_6 : decode cX5_run 6 = .ok (.sipush 2000, 3) := by decide +kernel
theorem dX5_run_9 : decode cX5_run 9 = .ok (.if_icmp .le 13, 3) := by decide +kernel
theorem dX5_run_12 : decode cX5_run 12 = .ok (.new 88, 3) := by decide +kernel
theorem dX5_run_15 : decode cX5_run 15 = .ok (.dup, 1) := by decide +kernel
theorem dX5_run_16 : decode cX5_run 16 = .ok (.ldc 147, 2) := by decide +kernel
theorem dX5_run_18 : decode cX5_run 18 = .ok (.invokespecial 92, 3) := by decide +kernel
theorem dX5_run_21 : decode cX5_run 21 = .ok (.athrow, 1) := by decide +kernel
theorem dX5_run_22 : decode cX5_run 22 = .ok (.iload_n 1, 1) := by decide +kernel
theorem dX5_run_23 : decode cX5_run 23 = .ok (.ldc 149, 2) := by decide +kernel
theorem dX5_run_25 : decode cX5_run 25 = .ok (.aload_n 0, 1) := by decide +kernel
theorem dX5_run_26 : decode cX5_run 26 = .ok (.getfield 35, 3) := by decide +kernel
theorem dX5_run_29 : decode cX5_run 29 = .ok (.getfield 150, 3) := by decide +kernel
theorem dX5_run_32 : decode cX5_run 32 = .ok (.isub, 1) := by decide +kernel
theorem dX5_run_33 : decode cX5_run 33 = .ok (.if_icmp .le 13, 3) := by decide +kernel
theorem dX5_run_36 : decode cX5_run 36 = .ok (.new 73, 3) := by decide +kernel
theorem dX5_run_39 : decode cX5_run 39 = .ok (.dup, 1) := by decide +kernel
theorem dX5_run_40 : decode cX5_run 40 = .ok (.ldc 153, 2) := by decide +kernel
theorem dX5_run_42 : decode cX5_run 42 = .ok (.invokespecial 77, 3) := by decide +kernel
theorem dX5_run_45 : decode cX5_run 45 = .ok (.athrow, 1) := by decide +kernel
theorem dX5_run_46 : decode cX5_run 46 = .ok (.iload_n 1, 1) := by decide +kernel
theorem dX5_run_47 : decode cX5_run 47 = .ok (.istore_n 2, 1) := by decide +kernel
theorem dX5_run_48 : decode cX5_run 48 = .ok (.iload_n 2, 1) := by decide +kernel
theorem dX5_run_49 : decode cX5_run 49 = .ok (.ifCond .le 57, 3) := by decide +kernel
theorem dX5_run_52 : decode cX5_run 52 = .ok (.aload_n 0, 1) := by decide +kernel
theorem dX5_run_53 : decode cX5_run 53 = .ok (.getfield 35, 3) := by decide +kernel
theorem dX5_run_56 : decode cX5_run 56 = .ok (.getfield 155, 3) := by decide +kernel
theorem dX5_run_59 : decode cX5_run 59 = .ok (.ifCond .eq 21, 3) := by decide +kernel
theorem dX5_run_62 : decode cX5_run 62 = .ok (.iconst 1, 1) := by decide +kernel
theorem dX5_run_63 : decode cX5_run 63 = .ok (.iload_n 2, 1) := by decide +kernel
theorem dX5_run_64 : decode cX5_run 64 = .ok (.aload_n 0, 1) := by decide +kernel
theorem dX5_run_65 : decode cX5_run 65 = .ok (.getfield 35, 3) := by decide +kernel
theorem dX5_run_68 : decode cX5_run 68 = .ok (.invokevirtual 158, 3) := by decide +kernel
theorem dX5_run_71 : decode cX5_run 71 = .ok (.invokestatic 102, 3) := by decide +kernel
theorem dX5_run_74 : decode cX5_run 74 = .ok (.invokestatic 161, 3) := by decide +kernel
theorem dX5_run_77 : decode cX5_run 77 = .ok (.goto 4, 3) := by decide +kernel
theorem dX5_run_80 : decode cX5_run 80 = .ok (.iload_n 2, 1) := by decide +kernel
theorem dX5_run_81 : decode cX5_run 81 = .ok (.istore_n 3, 1) := by decide +kernel
theorem dX5_run_82 : decode cX5_run 82 = .ok (.iload_n 2, 1) := by decide +kernel
theorem dX5_run_83 : decode cX5_run 83 = .ok (.iload_n 3, 1) := by decide +kernel
theorem dX5_run_84 : decode cX5_run 84 = .ok (.isub, 1) := by decide +kernel
theorem dX5_run_85 : decode cX5_run 85 = .ok (.istore_n 2, 1) := by decide +kernel
theorem dX5_run_86 : decode cX5_run 86 = .ok (.aload_n 0, 1) := by decide +kernel
theorem dX5_run_87 : decode cX5_run 87 = .ok (.getfield 35, 3) := by decide +kernel
theorem dX5_run_90 : decode cX5_run 90 = .ok (.dup, 1) := by decide +kernel
theorem dX5_run_91 : decode cX5_run 91 = .ok (.getfield 150, 3) := by decide +kernel
theorem dX5_run_94 : decode cX5_run 94 = .ok (.iload_n 3, 1) := by decide +kernel
theorem dX5_run_95 : decode cX5_run 95 = .ok (.iadd, 1) := by decide +kernel
theorem dX5_run_96 : decode cX5_run 96 = .ok (.putfield 150, 3) := by decide +kernel
theorem dX5_run_99 : decode cX5_run 99 = .ok (.aload_n 0, 1) := by decide +kernel
theorem dX5_run_100 : decode cX5_run 100 = .ok (.invokevirtual 164, 3) := by decide +kernel
theorem dX5_run_103 : decode cX5_run 103 = .ok (.goto (-55), 3) := by decide +kernel
theorem dX5_run_106 : decode cX5_run 106 = .ok (.aload_n 0, 1) := by decide +kernel
theorem dX5_run_107 : decode cX5_run 107 = .ok (.getfield 35, 3) := by decide +kernel
theorem dX5_run_110 : decode cX5_run 110 = .ok (.getfield 150, 3) := by decide +kernel
theorem dX5_run_113 : decode cX5_run 113 = .ok (.ireturn, 1) := by decide +kernel
theorem dX3_headIs_0 : decode cX3_headIs 0 = .ok (.aload_n 0, 1) := by decide +kernel
theorem dX3_headIs_1 : decode cX3_headIs 1 = .ok (.iload_n 1, 1) := by decide +kernel
theorem dX3_headIs_2 : decode cX3_headIs 2 = .ok (.putfield 15, 3) := by decide +kernel
theorem dX3_headIs_5 : decode cX3_headIs 5 = .ok (.aload_n 0, 1) := by decide +kernel
theorem dX3_headIs_6 : decode cX3_headIs 6 = .ok (.iload_n 2, 1) := by decide +kernel
theorem dX3_headIs_7 : decode cX3_headIs 7 = .ok (.putfield 19, 3) := by decide +kernel
theorem dX3_headIs_10 : decode cX3_headIs 10 = .ok (.aload_n 0, 1) := by decide +kernel
theorem dX3_headIs_11 : decode cX3_headIs 11 = .ok (.iload_n 3, 1) := by decide +kernel
theorem dX3_headIs_12 : decode cX3_headIs 12 = .ok (.putfield 22, 3) := by decide +kernel
theorem dX3_headIs_15 : decode cX3_headIs 15 = .ok (.aload_n 0, 1) := by decide +kernel
theorem dX3_headIs_16 : decode cX3_headIs 16 = .ok (.iload 4, 2) := by decide +kernel
theorem dX3_headIs_18 : decode cX3_headIs 18 = .ok (.putfield 25, 3) := by decide +kernel
theorem dX3_headIs_21 : decode cX3_headIs 21 = .ok (.aload_n 0, 1) := by decide +kernel
theorem dX3_headIs_22 : decode cX3_headIs 22 = .ok (.iload 5, 2) := by decide +kernel
theorem dX3_headIs_24 : decode cX3_headIs 24 = .ok (.putfield 28, 3) := by decide +kernel
theorem dX3_headIs_27 : decode cX3_headIs 27 = .ok (.return_, 1) := by decide +kernel
theorem dX3_append_0 : decode cX3_append 0 = .ok (.aload_n 0, 1) := by decide +kernel
theorem dX3_append_1 : decode cX3_append 1 = .ok (.getfield 31, 3) := by decide +kernel
theorem dX3_append_4 : decode cX3_append 4 = .ok (.ifCond .lt 35, 3) := by decide +kernel
theorem dX3_append_7 : decode cX3_append 7 = .ok (.aload_n 0, 1) := by decide +kernel
theorem dX3_append_8 : decode cX3_append 8 = .ok (.getfield 31, 3) := by decide +kernel
theorem dX3_append_11 : decode cX3_append 11 = .ok (.aload_n 0, 1) := by decide +kernel
theorem dX3_append_12 : decode cX3_append 12 = .ok (.getfield 9, 3) := by decide +kernel
theorem dX3_append_15 : decode cX3_append 15 = .ok (.arraylength, 1) := by decide +kernel
theorem dX3_append_16 : decode cX3_append 16 = .ok (.if_icmp .ge 23, 3) := by decide +kernel
theorem dX3_append_19 : decode cX3_append 19 = .ok (.aload_n 0, 1) := by decide +kernel
theorem dX3_append_20 : decode cX3_append 20 = .ok (.getfield 9, 3) := by decide +kernel
theorem dX3_append_23 : decode cX3_append 23 = .ok (.aload_n 0, 1) := by decide +kernel
theorem dX3_append_24 : decode cX3_append 24 = .ok (.getfield 31, 3) := by decide +kernel
theorem dX3_append_27 : decode cX3_append 27 = .ok (.iload_n 1, 1) := by decide +kernel
