/-! written by program (wip/gen) -/
theorem dX6_close_66 : decode cX6_close 66 = .ok (.goto 34, 3) := by decide +kernel
theorem dX6_close_69 : decode cX6_close 69 = .ok (.aload_n 0, 1) := by decide +kernel
theorem dX6_close_70 : decode cX6_close 70 = .ok (.getfield 118, 3) := by decide +kernel
theorem dX6_close_73 : decode cX6_close 73 = .ok (.iconst 4, 1) := by decide +kernel
theorem dX6_close_74 : decode cX6_close 74 = .ok (.if_icmp .ne 11, 3) := by decide +kernel
theorem dX6_close_77 : decode cX6_close 77 = .ok (.aload_n 0, 1) := by decide +kernel
theorem dX6_close_78 : decode cX6_close 78 = .ok (.iconst 5, 1) := by decide +kernel
theorem dX6_close_79 : decode cX6_close 79 = .ok (.invokevirtual 147, 3) := by decide +kernel
theorem dX6_close_82 : decode cX6_close 82 = .ok (.goto 18, 3) := by decide +kernel
theorem dX6_close_85 : decode cX6_close 85 = .ok (.aload_n 0, 1) := by decide +kernel
theorem dX6_close_86 : decode cX6_close 86 = .ok (.getfield 118, 3) := by decide +kernel
theorem dX6_close_89 : decode cX6_close 89 = .ok (.bipush 7, 2) := by decide +kernel
theorem dX6_close_91 : decode cX6_close 91 = .ok (.if_icmp .ne 9, 3) := by decide +kernel
theorem dX6_close_94 : decode cX6_close 94 = .ok (.aload_n 0, 1) := by decide +kernel
theorem dX6_close_95 : decode cX6_close 95 = .ok (.bipush 9, 2) := by decide +kernel
theorem dX6_close_97 : decode cX6_close 97 = .ok (.invokevirtual 147, 3) := by decide +kernel
theorem dX6_close_100 : decode cX6_close 100 = .ok (.aload_n 0, 1) := by decide +kernel
theorem dX6_close_101 : decode cX6_close 101 = .ok (.invokevirtual 136, 3) := by decide +kernel
theorem dX6_close_104 : decode cX6_close 104 = .ok (.return_, 1) := by decide +kernel
theorem dX6_abort_0 : decode cX6_abort 0 = .ok (.aload_n 0, 1) := by decide +kernel
theorem dX6_abort_1 : decode cX6_abort 1 = .ok (.aload_n 0, 1) := by decide +kernel
theorem dX6_abort_2 : decode cX6_abort 2 = .ok (.getfield 118, 3) := by decide +kernel
theorem dX6_abort_5 : decode cX6_abort 5 = .ok (.ifCond .eq 12, 3) := by decide +kernel
theorem dX6_abort_8 : decode cX6_abort 8 = .ok (.aload_n 0, 1) := by decide +kernel
theorem dX6_abort_9 : decode cX6_abort 9 = .ok (.getfield 118, 3) := by decide +kernel
theorem dX6_abort_12 : decode cX6_abort 12 = .ok (.bipush 11, 2) := by decide +kernel
theorem dX6_abort_14 : decode cX6_abort 14 = .ok (.if_icmp .ne 7, 3) := by decide +kernel
theorem dX6_abort_17 : decode cX6_abort 17 = .ok (.iconst 1, 1) := by decide +kernel
theorem dX6_abort_18 : decode cX6_abort 18 = .ok (.goto 4, 3) := by decide +kernel
theorem dX6_abort_21 : decode cX6_abort 21 = .ok (.iconst 0, 1) := by decide +kernel
theorem dX6_abort_22 : decode cX6_abort 22 = .ok (.putfield 45, 3) := by decide +kernel
theorem dX6_abort_25 : decode cX6_abort 25 = .ok (.aload_n 0, 1) := by decide +kernel
theorem dX6_abort_26 : decode cX6_abort 26 = .ok (.getfield 45, 3) := by decide +kernel
theorem dX6_abort_29 : decode cX6_abort 29 = .ok (.ifCond .le 4, 3) := by decide +kernel
theorem dX6_abort_32 : decode cX6_abort 32 = .ok (.return_, 1) := by decide +kernel
theorem dX6_abort_33 : decode cX6_abort 33 = .ok (.aload_n 0, 1) := by decide +kernel
theorem dX6_abort_34 : decode cX6_abort 34 = .ok (.getfield 118, 3) := by decide +kernel
theorem dX6_abort_37 : decode cX6_abort 37 = .ok (.iconst 1, 1) := by decide +kernel
theorem dX6_abort_38 : decode cX6_abort 38 = .ok (.if_icmp .eq 47, 3) := by decide +kernel
theorem dX6_abort_41 : decode cX6_abort 41 = .ok (.aload_n 0, 1) := by decide +kernel
theorem dX6_abort_42 : decode cX6_abort 42 = .ok (.getfield 118, 3) := by decide +kernel
theorem dX6_abort_45 : decode cX6_abort 45 = .ok (.iconst 2, 1) := by decide +kernel
theorem dX6_abort_46 : decode cX6_abort 46 = .ok (.if_icmp .eq 39, 3) := by decide +kernel
theorem dX6_abort_49 : decode cX6_abort 49 = .ok (.aload_n 0, 1) := by decide +kernel
theorem dX6_abort_50 : decode cX6_abort 50 = .ok (.getfield 118, 3) := by decide +kernel
theorem dX6_abort_53 : decode cX6_abort 53 = .ok (.bipush 10, 2) := by decide +kernel
theorem dX6_abort_55 : decode cX6_abort 55 = .ok (.if_icmp .eq 30, 3) := by decide +kernel
theorem dX6_abort_58 : decode cX6_abort 58 = .ok (.aload_n 0, 1) := by decide +kernel
theorem dX6_abort_59 : decode cX6_abort 59 = .ok (.iconst 1, 1) := by decide +kernel
theorem dX6_abort_60 : decode cX6_abort 60 = .ok (.putfield 150, 3) := by decide +kernel
theorem dX6_abort_63 : decode cX6_abort 63 = .ok (.aload_n 0, 1) := by decide +kernel
theorem dX6_abort_64 : decode cX6_abort 64 = .ok (.bipush 12, 2) := by decide +kernel
theorem dX6_abort_66 : decode cX6_abort 66 = .ok (.putfield 153, 3) := by decide +kernel
theorem dX6_abort_69 : decode cX6_abort 69 = .ok (.aload_n 0, 1) := by decide +kernel
theorem dX6_abort_70 : decode cX6_abort 70 = .ok (.aload_n 0, 1) := by decide +kernel
theorem dX6_abort_71 : decode cX6_abort 71 = .ok (.getfield 54, 3) := by decide +kernel
theorem dX6_abort_74 : decode cX6_abort 74 = .ok (.putfield 156, 3) := by decide +kernel
theorem dX6_abort_77 : decode cX6_abort 77 = .ok (.aload_n 0, 1) := by decide +kernel
theorem dX6_abort_78 : decode cX6_abort 78 = .ok (.aload_n 0, 1) := by decide +kernel
theorem dX6_abort_79 : decode cX6_abort 79 = .ok (.getfield 69, 3) := by decide +kernel
theorem dX6_abort_82 : decode cX6_abort 82 = .ok (.putfield 159, 3) := by decide +kernel
theorem dX6_abort_85 : decode cX6_abort 85 = .ok (.aload_n 0, 1) := by decide +kernel
theorem dX6_abort_86 : decode cX6_abort 86 = .ok (.bipush 11, 2) := by decide +kernel
theorem dX6_abort_88 : decode cX6_abort 88 = .ok (.invokevirtual 147, 3) := by decide +kernel
theorem dX6_abort_91 : decode cX6_abort 91 = .ok (.return_, 1) := by decide +kernel
theorem dX6_ring_0 : decode cX6_ring 0 = .ok (.aload_n 0, 1) := by decide +kernel
theorem dX6_ring_1 : decode cX6_ring 1 = .ok (.dup, 1) := by decide +kernel
theorem dX6_ring_2 : decode cX6_ring 2 = .ok (.getfield 88, 3) := by decide +kernel
theorem dX6_ring_5 : decode cX6_ring 5 = .ok (.iconst 1, 1) := by decide +kernel
theorem dX6_ring_6 : decode cX6_ring 6 = .ok (.iadd, 1) := by decide +kernel
theorem dX6_ring_7 : decode cX6_ring 7 = .ok (.putfield 88, 3) := by decide +kernel
theorem dX6_ring_10 : decode cX6_ring 10 = .ok (.aload_n 0, 1) := by decide +kernel
theorem dX6_ring_11 : decode cX6_ring 11 = .ok (.getfield 88, 3) := by decide +kernel
theorem dX6_ring_14 : decode cX6_ring 14 = .ok (.bipush 8, 2) := by decide +kernel
theorem dX6_ring_16 : decode cX6_ring 16 = .ok (.if_icmp .le 10, 3) := by decide +kernel
theorem dX6_ring_19 : decode cX6_ring 19 = .ok (.aload_n 0, 1) := by decide +kernel
theorem dX6_ring_20 : decode cX6_ring 20 = .ok (.bipush 11, 2) := by decide +kernel
theorem dX6_ring_22 : decode cX6_ring 22 = .ok (.invokevirtual 147, 3) := by decide +kernel
theorem dX6_ring_25 : decode cX6_ring 25 = .ok (.return_, 1) := by decide +kernel
theorem dX6_ring_26 : decode cX6_ring 26 = .ok (.aload_n 0, 1) := by decide +kernel
theorem dX6_ring_27 : decode cX6_ring 27 = .ok (.getfield 51, 3) := by decide +kernel
theorem dX6_ring_30 : decode cX6_ring 30 = .ok (.aload_n 0, 1) := by decide +kernel
theorem dX6_ring_31 : decode cX6_ring 31 = .ok (.getfield 48, 3) := by decide +kernel
theorem dX6_ring_34 : decode cX6_ring 34 = .ok (.if_icmp .ne 22, 3) := by decide +kernel
theorem dX6_ring_37 : decode cX6_ring 37 = .ok (.aload_n 0, 1) := by decide +kernel
theorem dX6_ring_38 : decode cX6_ring 38 = .ok (.getfield 54, 3) := by decide +kernel
theorem dX6_ring_41 : decode cX6_ring 41 = .ok (.aload_n 0, 1) := by decide +kernel
theorem dX6_ring_42 : decode cX6_ring 42 = .ok (.getfield 48, 3) := by decide +kernel
theorem dX6_ring_45 : decode cX6_ring 45 = .ok (.if_icmp .eq 11, 3) := by decide +kernel
theorem dX6_ring_48 : decode cX6_ring 48 = .ok (.aload_n 0, 1) := by decide +kernel
theorem dX6_ring_49 : decode cX6_ring 49 = .ok (.iconst 1, 1) := by decide +kernel
theorem dX6_ring_50 : decode cX6_ring 50 = .ok (.putfield 103, 3) := by decide +kernel
theorem dX6_ring_53 : decode cX6_ring 53 = .ok (.goto 27, 3) := by decide +kernel
theorem dX6_ring_56 : decode cX6_ring 56 = .ok (.aload_n 0, 1) := by decide +kernel
theorem dX6_ring_57 : decode cX6_ring 57 = .ok (.getfield 51, 3) := by decide +kernel
theorem dX6_ring_60 : decode cX6_ring 60 = .ok (.aload_n 0, 1) := by decide +kernel
theorem dX6_ring_61 : decode cX6_ring 61 = .ok (.getfield 54, 3) := by decide +kernel
theorem dX6_ring_64 : decode cX6_ring 64 = .ok (.if_icmp .eq 11, 3) := by decide +kernel
theorem dX6_ring_67 : decode cX6_ring 67 = .ok (.aload_n 0, 1) := by decide +kernel
theorem dX6_ring_68 : decode cX6_ring 68 = .ok (.iconst 1, 1) := by decide +kernel
theorem dX6_ring_69 : decode cX6_ring 69 = .ok (.putfield 106, 3) := by decide +kernel
theorem dX6_ring_72 : decode cX6_ring 72 = .ok (.goto 8, 3) := by decide +kernel
theorem dX6_ring_75 : decode cX6_ring 75 = .ok (.aload_n 0, 1) := by decide +kernel
theorem dX6_ring_76 : decode cX6_ring 76 = .ok (.iconst 1, 1) := by decide +kernel
theorem dX6_ring_77 : decode cX6_ring 77 = .ok (.putfield 109, 3) := by decide +kernel
theorem dX6_ring_80 : decode cX6_ring 80 = .ok (.aload_n 0, 1) := by decide +kernel
theorem dX6_ring_81 : decode cX6_ring 81 = .ok (.aload_n 0, 1) := by decide +kernel
theorem dX6_ring_82 : decode cX6_ring 82 = .ok (.getfield 24, 3) := by decide +kernel
theorem dX6_ring_85 : decode cX6_ring 85 = .ok (.iconst 2, 1) := by decide +kernel
theorem dX6_ring_86 : decode cX6_ring 86 = .ok (.imul, 1) := by decide +kernel
theorem dX6_ring_87 : decode cX6_ring 87 = .ok (.sipush 1200, 3) := by decide +kernel
theorem dX6_ring_90 : decode cX6_ring 90 = .ok (.if_icmp .le 9, 3) := by decide +kernel
theorem dX6_ring_93 : decode cX6_ring 93 = .ok (.sipush 1200, 3) := by decide +kernel
theorem dX6_ring_96 : decode cX6_ring 96 = .ok (.goto 9, 3) := by decide +kernel
theorem dX6_ring_99 : decode cX6_ring 99 = .ok (.aload_n 0, 1) := by decide +kernel
theorem dX6_ring_100 : decode cX6_ring 100 = .ok (.getfield 24, 3) := by decide +kernel
theorem dX6_ring_103 : decode cX6_ring 103 = .ok (.iconst 2, 1) := by decide +kernel
theorem dX6_ring_104 : decode cX6_ring 104 = .ok (.imul, 1) := by decide +kernel
theorem dX6_ring_105 : decode cX6_ring 105 = .ok (.putfield 24, 3) := by decide +kernel
theorem dX6_ring_108 : decode cX6_ring 108 = .ok (.aload_n 0, 1) := by decide +kernel
theorem dX6_ring_109 : decode cX6_ring 109 = .ok (.aload_n 0, 1) := by decide +kernel
theorem dX6_ring_110 : decode cX6_ring 110 = .ok (.getfield 121, 3) := by decide +kernel
theorem dX6_ring_113 : decode cX6_ring 113 = .ok (.aload_n 0, 1) := by decide +kernel
theorem dX6_ring_114 : decode cX6_ring 114 = .ok (.getfield 24, 3) := by decide +kernel
theorem dX6_ring_117 : decode cX6_ring 117 = .ok (.iadd, 1) := by decide +kernel
theorem dX6_ring_118 : decode cX6_ring 118 = .ok (.putfield 20, 3) := by decide +kernel
theorem dX6_ring_121 : decode cX6_ring 121 = .ok (.return_, 1) := by decide +kernel
theorem dX6_run_0 : decode cX6_run 0 = .ok (.aload_n 0, 1) := by decide +kernel
theorem dX6_run_1 : decode cX6_run 1 = .ok (.iload_n 1, 1) := by decide +kernel
theorem dX6_run_2 : decode cX6_run 2 = .ok (.iconst 1, 1) := by decide +kernel
theorem dX6_run_3 : decode cX6_run 3 = .ok (.if_icmp .lt 10, 3) := by decide +kernel
theorem dX6_run_6 : decode cX6_run 6 = .ok (.iload_n 1, 1) := by decide +kernel
theorem dX6_run_7 : decode cX6_run 7 = .ok (.sipush 2000, 3) := by decide +kernel
theorem dX6_run_10 : decode cX6_run 10 = .ok (.if_icmp .le 7, 3) := by decide +kernel
theorem dX6_run_13 : decode cX6_run 13 = .ok (.iconst 1, 1) := by decide +kernel
theorem dX6_run_14 : decode cX6_run 14 = .ok (.goto 19, 3) := by decide +kernel
theorem dX6_run_17 : decode cX6_run 17 = .ok (.aload_n 0, 1) := by decide +kernel
theorem dX6_run_18 : decode cX6_run 18 = .ok (.getfield 121, 3) := by decide +kernel
theorem dX6_run_21 : decode cX6_run 21 = .ok (.iload_n 1, 1) := by decide +kernel
theorem dX6_run_22 : decode cX6_run 22 = .ok (.iadd, 1) := by decide +kernel
theorem dX6_run_23 : decode cX6_run 23 = .ok (.ldc 171, 2) := by decide +kernel
theorem dX6_run_25 : decode cX6_run 25 = .ok (.if_icmp .le 7, 3) := by decide +kernel
theorem dX6_run_28 : decode cX6_run 28 = .ok (.iconst 2, 1) := by decide +kernel
theorem dX6_run_29 : decode cX6_run 29 = .ok (.goto 4, 3) := by decide +kernel
theorem dX6_run_32 : decode cX6_run 32 = .ok (.iconst 0, 1) := by decide +kernel
theorem dX6_run_33 : decode cX6_run 33 = .ok (.putfield 45, 3) := by decide +kernel
theorem dX6_run_36 : decode cX6_run 36 = .ok (.aload_n 0, 1) := by decide +kernel
theorem dX6_run_37 : decode cX6_run 37 = .ok (.getfield 45, 3) := by decide +kernel
theorem dX6_run_40 : decode cX6_run 40 = .ok (.ifCond .le 5, 3) := by decide +kernel
theorem dX6_run_43 : decode cX6_run 43 = .ok (.iconst 0, 1) := by decide +kernel
theorem dX6_run_44 : decode cX6_run 44 = .ok (.ireturn, 1) := by decide +kernel
theorem dX6_run_45 : decode cX6_run 45 = .ok (.iconst 0, 1) := by decide +kernel
theorem dX6_run_46 : decode cX6_run 46 = .ok (.istore_n 2, 1) := by decide +kernel
theorem dX6_run_47 : decode cX6_run 47 = .ok (.iload_n 2, 1) := by decide +kernel
theorem dX6_run_48 : decode cX6_run 48 = .ok (.iload_n 1, 1) := by decide +kernel
theorem dX6_run_49 : decode cX6_run 49 = .ok (.if_icmp .ge 63, 3) := by decide +kernel
theorem dX6_run_52 : decode cX6_run 52 = .ok (.aload_n 0, 1) := by decide +kernel
theorem dX6_run_53 : decode cX6_run 53 = .ok (.dup, 1) := by decide +kernel
theorem dX6_run_54 : decode cX6_run 54 = .ok (.getfield 121, 3) := by decide +kernel
theorem dX6_run_57 : decode cX6_run 57 = .ok (.iconst 1, 1) := by decide +kernel
theorem dX6_run_58 : decode cX6_run 58 = .ok (.iadd, 1) := by decide +kernel
theorem dX6_run_59 : decode cX6_run 59 = .ok (.putfield 121, 3) := by decide +kernel
theorem dX6_run_62 : decode cX6_run 62 = .ok (.aload_n 0, 1) := by decide +kernel
theorem dX6_run_63 : decode cX6_run 63 = .ok (.getfield 118, 3) := by decide +kernel
theorem dX6_run_66 : decode cX6_run 66 = .ok (.bipush 10, 2) := by decide +kernel
theorem dX6_run_68 : decode cX6_run 68 = .ok (.if_icmp .ne 19, 3) := by decide +kernel
theorem dX6_run_71 : decode cX6_run 71 = .ok (.aload_n 0, 1) := by decide +kernel
theorem dX6_run_72 : decode cX6_run 72 = .ok (.getfield 121, 3) := by decide +kernel
theorem dX6_run_75 : decode cX6_run 75 = .ok (.aload_n 0, 1) := by decide +kernel
theorem dX6_run_76 : decode cX6_run 76 = .ok (.getfield 124, 3) := by decide +kernel
theorem dX6_run_79 : decode cX6_run 79 = .ok (.if_icmp .ne 8, 3) := by decide +kernel
theorem dX6_run_82 : decode cX6_run 82 = .ok (.aload_n 0, 1) := by decide +kernel
theorem dX6_run_83 : decode cX6_run 83 = .ok (.iconst 0, 1) := by decide +kernel
theorem dX6_run_84 : decode cX6_run 84 = .ok (.invokevirtual 147, 3) := by decide +kernel
theorem dX6_run_87 : decode cX6_run 87 = .ok (.aload_n 0, 1) := by decide +kernel
theorem dX6_run_88 : decode cX6_run 88 = .ok (.getfield 20, 3) := by decide +kernel
theorem dX6_run_91 : decode cX6_run 91 = .ok (.aload_n 0, 1) := by decide +kernel
theorem dX6_run_92 : decode cX6_run 92 = .ok (.getfield 121, 3) := by decide +kernel
theorem dX6_run_95 : decode cX6_run 95 = .ok (.if_icmp .ne 7, 3) := by decide +kernel
theorem dX6_run_98 : decode cX6_run 98 = .ok (.aload_n 0, 1) := by decide +kernel
theorem dX6_run_99 : decode cX6_run 99 = .ok (.invokevirtual 172, 3) := by decide +kernel
theorem dX6_run_102 : decode cX6_run 102 = .ok (.aload_n 0, 1) := by decide +kernel
theorem dX6_run_103 : decode cX6_run 103 = .ok (.invokevirtual 136, 3) := by decide +kernel
theorem dX6_run_106 : decode cX6_run 106 = .ok (.iinc 2 1, 3) := by decide +kernel
theorem dX6_run_109 : decode cX6_run 109 = .ok (.goto (-62), 3) := by decide +kernel
theorem dX6_run_112 : decode cX6_run 112 = .ok (.aload_n 0, 1) := by decide +kernel
theorem dX6_run_113 : decode cX6_run 113 = .ok (.getfield 121, 3) := by decide +kernel
theorem dX6_run_116 : decode cX6_run 116 = .ok (.ireturn, 1) := by decide +kernel
theorem dX6_feed_0 : decode cX6_feed 0 = .ok (.aload_n 0, 1) := by decide +kernel
theorem dX6_feed_1 : decode cX6_feed 1 = .ok (.iload_n 3, 1) := by decide +kernel
theorem dX6_feed_2 : decode cX6_feed 2 = .ok (.iconst 1, 1) := by decide +kernel
theorem dX6_feed_3 : decode cX6_feed 3 = .ok (.if_icmp .lt 9, 3) := by decide +kernel
theorem dX6_feed_6 : decode cX6_feed 6 = .ok (.iload_n 3, 1) := by decide +kernel
theorem dX6_feed_7 : decode cX6_feed 7 = .ok (.bipush 8, 2) := by decide +kernel
theorem dX6_feed_9 : decode cX6_feed 9 = .ok (.if_icmp .le 7, 3) := by decide +kernel
theorem dX6_feed_12 : decode cX6_feed 12 = .ok (.iconst 1, 1) := by decide +kernel
theorem dX6_feed_13 : decode cX6_feed 13 = .ok (.goto 20, 3) := by decide +kernel
theorem dX6_feed_16 : decode cX6_feed 16 = .ok (.aload_n 0, 1) := by decide +kernel
theorem dX6_feed_17 : decode cX6_feed 17 = .ok (.getfield 175, 3) := by decide +kernel
theorem dX6_feed_20 : decode cX6_feed 20 = .ok (.iload_n 3, 1) := by decide +kernel
theorem dX6_feed_21 : decode cX6_feed 21 = .ok (.iadd, 1) := by decide +kernel
theorem dX6_feed_22 : decode cX6_feed 22 = .ok (.sipush 1460, 3) := by decide +kernel
theorem dX6_feed_25 : decode cX6_feed 25 = .ok (.if_icmp .le 7, 3) := by decide +kernel
theorem dX6_feed_28 : decode cX6_feed 28 = .ok (.iconst 2, 1) := by decide +kernel
theorem dX6_feed_29 : decode cX6_feed 29 = .ok (.goto 4, 3) := by decide +kernel
theorem dX6_feed_32 : decode cX6_feed 32 = .ok (.iconst 0, 1) := by decide +kernel
theorem dX6_feed_33 : decode cX6_feed 33 = .ok (.putfield 45, 3) := by decide +kernel
theorem dX6_feed_36 : decode cX6_feed 36 = .ok (.aload_n 0, 1) := by decide +kernel
theorem dX6_feed_37 : decode cX6_feed 37 = .ok (.getfield 45, 3) := by decide +kernel
theorem dX6_feed_40 : decode cX6_feed 40 = .ok (.ifCond .le 5, 3) := by decide +kernel
theorem dX6_feed_43 : decode cX6_feed 43 = .ok (.iconst 0, 1) := by decide +kernel
theorem dX6_feed_44 : decode cX6_feed 44 = .ok (.ireturn, 1) := by decide +kernel
theorem dX6_feed_45 : decode cX6_feed 45 = .ok (.iload_n 3, 1) := by decide +kernel
theorem dX6_feed_46 : decode cX6_feed 46 = .ok (.iconst 1, 1) := by decide +kernel
theorem dX6_feed_47 : decode cX6_feed 47 = .ok (.isub, 1) := by decide +kernel
theorem dX6_feed_48 : decode cX6_feed 48 = .ok (.istore 4, 2) := by decide +kernel
theorem dX6_feed_50 : decode cX6_feed 50 = .ok (.iload 4, 2) := by decide +kernel
theorem dX6_feed_52 : decode cX6_feed 52 = .ok (.ifCond .lt 40, 3) := by decide +kernel
theorem dX6_feed_55 : decode cX6_feed 55 = .ok (.aload_n 0, 1) := by decide +kernel
theorem dX6_feed_56 : decode cX6_feed 56 = .ok (.getfield 27, 3) := by decide +kernel
theorem dX6_feed_59 : decode cX6_feed 59 = .ok (.aload_n 0, 1) := by decide +kernel
theorem dX6_feed_60 : decode cX6_feed 60 = .ok (.getfield 175, 3) := by decide +kernel
theorem dX6_feed_63 : decode cX6_feed 63 = .ok (.lload_n 1, 1) := by decide +kernel
theorem dX6_feed_64 : decode cX6_feed 64 = .ok (.bipush 8, 2) := by decide +kernel
theorem dX6_feed_66 : decode cX6_feed 66 = .ok (.iload 4, 2) := by decide +kernel
theorem dX6_feed_68 : decode cX6_feed 68 = .ok (.imul, 1) := by decide +kernel
theorem dX6_feed_69 : decode cX6_feed 69 = .ok (.lshr, 1) := by decide +kernel
theorem dX6_feed_70 : decode cX6_feed 70 = .ok (.ldc2_w 134, 3) := by decide +kernel
theorem dX6_feed_73 : decode cX6_feed 73 = .ok (.land, 1) := by decide +kernel
theorem dX6_feed_74 : decode cX6_feed 74 = .ok (.l2i, 1) := by decide +kernel
theorem dX6_feed_75 : decode cX6_feed 75 = .ok (.iastore, 1) := by decide +kernel
theorem dX6_feed_76 : decode cX6_feed 76 = .ok (.aload_n 0, 1) := by decide +kernel
theorem dX6_feed_77 : decode cX6_feed 77 = .ok (.dup, 1) := by decide +kernel
theorem dX6_feed_78 : decode cX6_feed 78 = .ok (.getfield 175, 3) := by decide +kernel
theorem dX6_feed_81 : decode cX6_feed 81 = .ok (.iconst 1, 1) := by decide +kernel
theorem dX6_feed_82 : decode cX6_feed 82 = .ok (.iadd, 1) := by decide +kernel
theorem dX6_feed_83 : decode cX6_feed 83 = .ok (.putfield 175, 3) := by decide +kernel
theorem dX6_feed_86 : decode cX6_feed 86 = .ok (.iinc 4 (-1), 3) := by decide +kernel
theorem dX6_feed_89 : decode cX6_feed 89 = .ok (.goto (-39), 3) := by decide +kernel
theorem dX6_feed_92 : decode cX6_feed 92 = .ok (.aload_n 0, 1) := by decide +kernel
theorem dX6_feed_93 : decode cX6_feed 93 = .ok (.getfield 175, 3) := by decide +kernel
theorem dX6_feed_96 : decode cX6_feed 96 = .ok (.ireturn, 1) := by decide +kernel
theorem dX6_has_0 : decode cX6_has 0 = .ok (.iload_n 0, 1) := by decide +kernel
theorem dX6_has_1 : decode cX6_has 1 = .ok (.iload_n 1, 1) := by decide +kernel
theorem dX6_has_2 : decode cX6_has 2 = .ok (.iand, 1) := by decide +kernel
theorem dX6_has_3 : decode cX6_has 3 = .ok (.ifCond .eq 7, 3) := by decide +kernel
theorem dX6_has_6 : decode cX6_has 6 = .ok (.iconst 1, 1) := by decide +kernel
theorem dX6_has_7 : decode cX6_has 7 = .ok (.goto 4, 3) := by decide +kernel
theorem dX6_has_10 : decode cX6_has 10 = .ok (.iconst 0, 1) := by decide +kernel
theorem dX6_has_11 : decode cX6_has 11 = .ok (.ireturn, 1) := by decide +kernel
theorem dX6_size_0 : decode cX6_size 0 = .ok (.aload_n 0, 1) := by decide +kernel
theorem dX6_size_1 : decode cX6_size 1 = .ok (.getfield 175, 3) := by decide +kernel
theorem dX6_size_4 : decode cX6_size 4 = .ok (.iload_n 1, 1) := by decide +kernel
theorem dX6_size_5 : decode cX6_size 5 = .ok (.iconst 1, 1) := by decide +kernel
theorem dX6_size_6 : decode cX6_size 6 = .ok (.invokestatic 178, 3) := by decide +kernel
theorem dX6_size_9 : decode cX6_size 9 = .ok (.ifCond .eq 7, 3) := by decide +kernel
theorem dX6_size_12 : decode cX6_size 12 = .ok (.iconst 1, 1) := by decide +kernel
theorem dX6_size_13 : decode cX6_size 13 = .ok (.goto 4, 3) := by decide +kernel
theorem dX6_size_16 : decode cX6_size 16 = .ok (.iconst 0, 1) := by decide +kernel
theorem dX6_size_17 : decode cX6_size 17 = .ok (.iadd, 1) := by decide +kernel
theorem dX6_size_18 : decode cX6_size 18 = .ok (.iload_n 1, 1) := by decide +kernel
theorem dX6_size_19 : decode cX6_size 19 = .ok (.iconst 2, 1) := by decide +kernel
theorem dX6_size_20 : decode cX6_size 20 = .ok (.invokestatic 178, 3) := by decide +kernel
theorem dX6_size_23 : decode cX6_size 23 = .ok (.ifCond .eq 7, 3) := by decide +kernel
theorem dX6_size_26 : decode cX6_size 26 = .ok (.iconst 1, 1) := by decide +kernel
theorem dX6_size_27 : decode cX6_size 27 = .ok (.goto 4, 3) := by decide +kernel
theorem dX6_size_30 : decode cX6_size 30 = .ok (.iconst 0, 1) := by decide +kernel
theorem dX6_size_31 : decode cX6_size 31 = .ok (.iadd, 1) := by decide +kernel
theorem dX6_size_32 : decode cX6_size 32 = .ok (.ireturn, 1) := by decide +kernel
theorem dX6_resets_0 : decode cX6_resets 0 = .ok (.iload_n 1, 1) := by decide +kernel
theorem dX6_resets_1 : decode cX6_resets 1 = .ok (.iconst 4, 1) := by decide +kernel
theorem dX6_resets_2 : decode cX6_resets 2 = .ok (.invokestatic 178, 3) := by decide +kernel
theorem dX6_resets_5 : decode cX6_resets 5 = .ok (.ifCond .eq 4, 3) := by decide +kernel
theorem dX6_resets_8 : decode cX6_resets 8 = .ok (.return_, 1) := by decide +kernel
theorem dX6_resets_9 : decode cX6_resets 9 = .ok (.aload_n 0, 1) := by decide +kernel
theorem dX6_resets_10 : decode cX6_resets 10 = .ok (.iconst 1, 1) := by decide +kernel
theorem dX6_resets_11 : decode cX6_resets 11 = .ok (.putfield 150, 3) := by decide +kernel
theorem dX6_resets_14 : decode cX6_resets 14 = .ok (.iload_n 1, 1) := by decide +kernel
theorem dX6_resets_15 : decode cX6_resets 15 = .ok (.bipush 8, 2) := by decide +kernel
theorem dX6_resets_17 : decode cX6_resets 17 = .ok (.invokestatic 178, 3) := by decide +kernel
theorem dX6_resets_20 : decode cX6_resets 20 = .ok (.istore 4, 2) := by decide +kernel
theorem dX6_resets_22 : decode cX6_resets 22 = .ok (.aload_n 0, 1) := by decide +kernel
theorem dX6_resets_23 : decode cX6_resets 23 = .ok (.iload 4, 2) := by decide +kernel
theorem dX6_resets_25 : decode cX6_resets 25 = .ok (.ifCond .eq 7, 3) := by decide +kernel
theorem dX6_resets_28 : decode cX6_resets 28 = .ok (.iconst 4, 1) := by decide +kernel
theorem dX6_resets_29 : decode cX6_resets 29 = .ok (.goto 5, 3) := by decide +kernel
theorem dX6_resets_32 : decode cX6_resets 32 = .ok (.bipush 12, 2) := by decide +kernel
theorem dX6_resets_34 : decode cX6_resets 34 = .ok (.putfield 153, 3) := by decide +kernel
theorem dX6_resets_37 : decode cX6_resets 37 = .ok (.aload_n 0, 1) := by decide +kernel
theorem dX6_resets_38 : decode cX6_resets 38 = .ok (.iload 4, 2) := by decide +kernel
theorem dX6_resets_40 : decode cX6_resets 40 = .ok (.ifCond .eq 7, 3) := by decide +kernel
theorem dX6_resets_43 : decode cX6_resets 43 = .ok (.iload_n 3, 1) := by decide +kernel
theorem dX6_resets_44 : decode cX6_resets 44 = .ok (.goto 4, 3) := by decide +kernel
theorem dX6_resets_47 : decode cX6_resets 47 = .ok (.iconst 0, 1) := by decide +kernel
theorem dX6_resets_48 : decode cX6_resets 48 = .ok (.putfield 156, 3) := by decide +kernel
theorem dX6_resets_51 : decode cX6_resets 51 = .ok (.aload_n 0, 1) := by decide +kernel
theorem dX6_resets_52 : decode cX6_resets 52 = .ok (.iload 4, 2) := by decide +kernel
theorem dX6_resets_54 : decode cX6_resets 54 = .ok (.ifCond .eq 7, 3) := by decide +kernel
theorem dX6_resets_57 : decode cX6_resets 57 = .ok (.iconst 0, 1) := by decide +kernel
theorem dX6_resets_58 : decode cX6_resets 58 = .ok (.goto 10, 3) := by decide +kernel
theorem dX6_resets_61 : decode cX6_resets 61 = .ok (.iload_n 2, 1) := by decide +kernel
theorem dX6_resets_62 : decode cX6_resets 62 = .ok (.aload_n 0, 1) := by decide +kernel
theorem dX6_resets_63 : decode cX6_resets 63 = .ok (.iload_n 1, 1) := by decide +kernel
theorem dX6_resets_64 : decode cX6_resets 64 = .ok (.invokevirtual 182, 3) := by decide +kernel
theorem dX6_resets_67 : decode cX6_resets 67 = .ok (.iadd, 1) := by decide +kernel
theorem dX6_resets_68 : decode cX6_resets 68 = .ok (.putfield 159, 3) := by decide +kernel
theorem dX6_resets_71 : decode cX6_resets 71 = .ok (.return_, 1) := by decide +kernel
theorem dX6_fits_0 : decode cX6_fits 0 = .ok (.iload_n 2, 1) := by decide +kernel
theorem dX6_fits_1 : decode cX6_fits 1 = .ok (.aload_n 0, 1) := by decide +kernel
theorem dX6_fits_2 : decode cX6_fits 2 = .ok (.getfield 69, 3) := by decide +kernel
theorem dX6_fits_5 : decode cX6_fits 5 = .ok (.isub, 1) := by decide +kernel
theorem dX6_fits_6 : decode cX6_fits 6 = .ok (.istore_n 3, 1) := by decide +kernel
theorem dX6_fits_7 : decode cX6_fits 7 = .ok (.aload_n 0, 1) := by decide +kernel
theorem dX6_fits_8 : decode cX6_fits 8 = .ok (.iload_n 1, 1) := by decide +kernel
theorem dX6_fits_9 : decode cX6_fits 9 = .ok (.invokevirtual 182, 3) := by decide +kernel
theorem dX6_fits_12 : decode cX6_fits 12 = .ok (.istore 4, 2) := by decide +kernel
theorem dX6_fits_14 : decode cX6_fits 14 = .ok (.iload 4, 2) := by decide +kernel
theorem dX6_fits_16 : decode cX6_fits 16 = .ok (.ifCond .ne 25, 3) := by decide +kernel
theorem dX6_fits_19 : decode cX6_fits 19 = .ok (.iload_n 3, 1) := by decide +kernel
theorem dX6_fits_20 : decode cX6_fits 20 = .ok (.ifCond .eq 15, 3) := by decide +kernel
theorem dX6_fits_23 : decode cX6_fits 23 = .ok (.iload_n 3, 1) := by decide +kernel
theorem dX6_fits_24 : decode cX6_fits 24 = .ok (.ifCond .le 15, 3) := by decide +kernel
theorem dX6_fits_27 : decode cX6_fits 27 = .ok (.iload_n 3, 1) := by decide +kernel
theorem dX6_fits_28 : decode cX6_fits 28 = .ok (.aload_n 0, 1) := by decide +kernel
theorem dX6_fits_29 : decode cX6_fits 29 = .ok (.invokevirtual 139, 3) := by decide +kernel
theorem dX6_fits_32 : decode cX6_fits 32 = .ok (.if_icmp .ge 7, 3) := by decide +kernel
theorem dX6_fits_35 : decode cX6_fits 35 = .ok (.iconst 1, 1) := by decide +kernel
theorem dX6_fits_36 : decode cX6_fits 36 = .ok (.goto 4, 3) := by decide +kernel
theorem dX6_fits_39 : decode cX6_fits 39 = .ok (.iconst 0, 1) := by decide +kernel
theorem dX6_fits_40 : decode cX6_fits 40 = .ok (.ireturn, 1) := by decide +kernel
theorem dX6_fits_41 : decode cX6_fits 41 = .ok (.aload_n 0, 1) := by decide +kernel
theorem dX6_fits_42 : decode cX6_fits 42 = .ok (.invokevirtual 139, 3) := by decide +kernel
theorem dX6_fits_45 : decode cX6_fits 45 = .ok (.ifCond .le 22, 3) := by decide +kernel
theorem dX6_fits_48 : decode cX6_fits 48 = .ok (.iload_n 3, 1) := by decide +kernel
theorem dX6_fits_49 : decode cX6_fits 49 = .ok (.aload_n 0, 1) := by decide +kernel
theorem dX6_fits_50 : decode cX6_fits 50 = .ok (.invokevirtual 139, 3) := by decide +kernel
theorem dX6_fits_53 : decode cX6_fits 53 = .ok (.if_icmp .ge 14, 3) := by decide +kernel
theorem dX6_fits_56 : decode cX6_fits 56 = .ok (.iload_n 3, 1) := by decide +kernel
theorem dX6_fits_57 : decode cX6_fits 57 = .ok (.iload 4, 2) := by decide +kernel
theorem dX6_fits_59 : decode cX6_fits 59 = .ok (.iadd, 1) := by decide +kernel
theorem dX6_fits_60 : decode cX6_fits 60 = .ok (.ifCond .le 7, 3) := by decide +kernel
theorem dX6_fits_63 : decode cX6_fits 63 = .ok (.iconst 1, 1) := by decide +kernel
theorem dX6_fits_64 : decode cX6_fits 64 = .ok (.goto 4, 3) := by decide +kernel
theorem dX6_fits_67 : decode cX6_fits 67 = .ok (.iconst 0, 1) := by decide +kernel
theorem dX6_fits_68 : decode cX6_fits 68 = .ok (.ireturn, 1) := by decide +kernel
theorem dX6_tell_0 : decode cX6_tell 0 = .ok (.iload_n 1, 1) := by decide +kernel
theorem dX6_tell_1 : decode cX6_tell 1 = .ok (.aload_n 0, 1) := by decide +kernel
theorem dX6_tell_2 : decode cX6_tell 2 = .ok (.getfield 186, 3) := by decide +kernel
theorem dX6_tell_5 : decode cX6_tell 5 = .ok (.isub, 1) := by decide +kernel
theorem dX6_tell_6 : decode cX6_tell 6 = .ok (.istore 4, 2) := by decide +kernel
theorem dX6_tell_8 : decode cX6_tell 8 = .ok (.iload_n 2, 1) := by decide +kernel
theorem dX6_tell_9 : decode cX6_tell 9 = .ok (.aload_n 0, 1) := by decide +kernel
theorem dX6_tell_10 : decode cX6_tell 10 = .ok (.getfield 51, 3) := by decide +kernel
theorem dX6_tell_13 : decode cX6_tell 13 = .ok (.isub, 1) := by decide +kernel
theorem dX6_tell_14 : decode cX6_tell 14 = .ok (.ifCond .lt 22, 3) := by decide +kernel
theorem dX6_tell_17 : decode cX6_tell 17 = .ok (.iload 4, 2) := by decide +kernel
theorem dX6_tell_19 : decode cX6_tell 19 = .ok (.ifCond .lt 17, 3) := by decide +kernel
theorem dX6_tell_22 : decode cX6_tell 22 = .ok (.iload 4, 2) := by decide +kernel
theorem dX6_tell_24 : decode cX6_tell 24 = .ok (.ifCond .ne 13, 3) := by decide +kernel
theorem dX6_tell_27 : decode cX6_tell 27 = .ok (.iload_n 2, 1) := by decide +kernel
theorem dX6_tell_28 : decode cX6_tell 28 = .ok (.aload_n 0, 1) := by decide +kernel
theorem dX6_tell_29 : decode cX6_tell 29 = .ok (.getfield 189, 3) := by decide +kernel
theorem dX6_tell_32 : decode cX6_tell 32 = .ok (.isub, 1) := by decide +kernel
theorem dX6_tell_33 : decode cX6_tell 33 = .ok (.ifCond .ge 4, 3) := by decide +kernel
theorem dX6_tell_36 : decode cX6_tell 36 = .ok (.return_, 1) := by decide +kernel
theorem dX6_tell_37 : decode cX6_tell 37 = .ok (.aload_n 0, 1) := by decide +kernel
theorem dX6_tell_38 : decode cX6_tell 38 = .ok (.getfield 63, 3) := by decide +kernel
theorem dX6_tell_41 : decode cX6_tell 41 = .ok (.ifCond .ne 11, 3) := by decide +kernel
theorem dX6_tell_44 : decode cX6_tell 44 = .ok (.iload_n 3, 1) := by decide +kernel
theorem dX6_tell_45 : decode cX6_tell 45 = .ok (.ifCond .eq 7, 3) := by decide +kernel
theorem dX6_tell_48 : decode cX6_tell 48 = .ok (.iconst 1, 1) := by decide +kernel
theorem dX6_tell_49 : decode cX6_tell 49 = .ok (.goto 4, 3) := by decide +kernel
theorem dX6_tell_52 : decode cX6_tell 52 = .ok (.iconst 0, 1) := by decide +kernel
theorem dX6_tell_53 : decode cX6_tell 53 = .ok (.istore 5, 2) := by decide +kernel
theorem dX6_tell_55 : decode cX6_tell 55 = .ok (.aload_n 0, 1) := by decide +kernel
theorem dX6_tell_56 : decode cX6_tell 56 = .ok (.iload_n 3, 1) := by decide +kernel
theorem dX6_tell_57 : decode cX6_tell 57 = .ok (.putfield 63, 3) := by decide +kernel
theorem dX6_tell_60 : decode cX6_tell 60 = .ok (.aload_n 0, 1) := by decide +kernel
theorem dX6_tell_61 : decode cX6_tell 61 = .ok (.iload_n 1, 1) := by decide +kernel
theorem dX6_tell_62 : decode cX6_tell 62 = .ok (.putfield 186, 3) := by decide +kernel
theorem dX6_tell_65 : decode cX6_tell 65 = .ok (.aload_n 0, 1) := by decide +kernel
theorem dX6_tell_66 : decode cX6_tell 66 = .ok (.iload_n 2, 1) := by decide +kernel
theorem dX6_tell_67 : decode cX6_tell 67 = .ok (.putfield 189, 3) := by decide +kernel
theorem dX6_tell_70 : decode cX6_tell 70 = .ok (.iload 5, 2) := by decide +kernel
theorem dX6_tell_72 : decode cX6_tell 72 = .ok (.ifCond .eq 39, 3) := by decide +kernel
theorem dX6_tell_75 : decode cX6_tell 75 = .ok (.aload_n 0, 1) := by decide +kernel
theorem dX6_tell_76 : decode cX6_tell 76 = .ok (.iconst 0, 1) := by decide +kernel
theorem dX6_tell_77 : decode cX6_tell 77 = .ok (.putfield 88, 3) := by decide +kernel
theorem dX6_tell_80 : decode cX6_tell 80 = .ok (.aload_n 0, 1) := by decide +kernel
theorem dX6_tell_81 : decode cX6_tell 81 = .ok (.iconst 0, 1) := by decide +kernel
theorem dX6_tell_82 : decode cX6_tell 82 = .ok (.putfield 109, 3) := by decide +kernel
theorem dX6_tell_85 : decode cX6_tell 85 = .ok (.aload_n 0, 1) := by decide +kernel
theorem dX6_tell_86 : decode cX6_tell 86 = .ok (.aload_n 0, 1) := by decide +kernel
theorem dX6_tell_87 : decode cX6_tell 87 = .ok (.getfield 51, 3) := by decide +kernel
theorem dX6_tell_90 : decode cX6_tell 90 = .ok (.aload_n 0, 1) := by decide +kernel
theorem dX6_tell_91 : decode cX6_tell 91 = .ok (.getfield 54, 3) := by decide +kernel
theorem dX6_tell_94 : decode cX6_tell 94 = .ok (.if_icmp .eq 10, 3) := by decide +kernel
theorem dX6_tell_97 : decode cX6_tell 97 = .ok (.aload_n 0, 1) := by decide +kernel
theorem dX6_tell_98 : decode cX6_tell 98 = .ok (.getfield 20, 3) := by decide +kernel
theorem dX6_tell_101 : decode cX6_tell 101 = .ok (.goto 4, 3) := by decide +kernel
theorem dX6_tell_104 : decode cX6_tell 104 = .ok (.iconst (-1), 1) := by decide +kernel
theorem dX6_tell_105 : decode cX6_tell 105 = .ok (.putfield 20, 3) := by decide +kernel
theorem dX6_tell_108 : decode cX6_tell 108 = .ok (.goto 12, 3) := by decide +kernel
theorem dX6_tell_111 : decode cX6_tell 111 = .ok (.iload_n 3, 1) := by decide +kernel
theorem dX6_tell_112 : decode cX6_tell 112 = .ok (.ifCond .ne 8, 3) := by decide +kernel
theorem dX6_tell_115 : decode cX6_tell 115 = .ok (.aload_n 0, 1) := by decide +kernel
theorem dX6_tell_116 : decode cX6_tell 116 = .ok (.iconst 0, 1) := by decide +kernel
theorem dX6_tell_117 : decode cX6_tell 117 = .ok (.putfield 88, 3) := by decide +kernel
theorem dX6_tell_120 : decode cX6_tell 120 = .ok (.return_, 1) := by decide +kernel
theorem dX6_wasLast_0 : decode cX6_wasLast 0 = .ok (.aload_n 0, 1) := by decide +kernel
theorem dX6_wasLast_1 : decode cX6_wasLast 1 = .ok (.getfield 82, 3) := by decide +kernel
theorem dX6_wasLast_4 : decode cX6_wasLast 4 = .ok (.ifCond .eq 38, 3) := by decide +kernel
theorem dX6_wasLast_7 : decode cX6_wasLast 7 = .ok (.aload_n 0, 1) := by decide +kernel
theorem dX6_wasLast_8 : decode cX6_wasLast 8 = .ok (.getfield 60, 3) := by decide +kernel
theorem dX6_wasLast_11 : decode cX6_wasLast 11 = .ok (.ifCond .ne 31, 3) := by decide +kernel
theorem dX6_wasLast_14 : decode cX6_wasLast 14 = .ok (.aload_n 0, 1) := by decide +kernel
theorem dX6_wasLast_15 : decode cX6_wasLast 15 = .ok (.getfield 51, 3) := by decide +kernel
theorem dX6_wasLast_18 : decode cX6_wasLast 18 = .ok (.aload_n 0, 1) := by decide +kernel
theorem dX6_wasLast_19 : decode cX6_wasLast 19 = .ok (.getfield 54, 3) := by decide +kernel
theorem dX6_wasLast_22 : decode cX6_wasLast 22 = .ok (.if_icmp .ne 20, 3) := by decide +kernel
theorem dX6_wasLast_25 : decode cX6_wasLast 25 = .ok (.aload_n 0, 1) := by decide +kernel
theorem dX6_wasLast_26 : decode cX6_wasLast 26 = .ok (.getfield 54, 3) := by decide +kernel
theorem dX6_wasLast_29 : decode cX6_wasLast 29 = .ok (.aload_n 0, 1) := by decide +kernel
theorem dX6_wasLast_30 : decode cX6_wasLast 30 = .ok (.getfield 57, 3) := by decide +kernel
theorem dX6_wasLast_33 : decode cX6_wasLast 33 = .ok (.isub, 1) := by decide +kernel
theorem dX6_wasLast_34 : decode cX6_wasLast 34 = .ok (.iconst 1, 1) := by decide +kernel
theorem dX6_wasLast_35 : decode cX6_wasLast 35 = .ok (.if_icmp .ne 7, 3) := by decide +kernel
theorem dX6_wasLast_38 : decode cX6_wasLast 38 = .ok (.iconst 1, 1) := by decide +kernel
theorem dX6_wasLast_39 : decode cX6_wasLast 39 = .ok (.goto 4, 3) := by decide +kernel
theorem dX6_wasLast_42 : decode cX6_wasLast 42 = .ok (.iconst 0, 1) := by decide +kernel
theorem dX6_wasLast_43 : decode cX6_wasLast 43 = .ok (.istore_n 1, 1) := by decide +kernel
theorem dX6_wasLast_44 : decode cX6_wasLast 44 = .ok (.iload_n 1, 1) := by decide +kernel
theorem dX6_wasLast_45 : decode cX6_wasLast 45 = .ok (.ifCond .eq 20, 3) := by decide +kernel
theorem dX6_wasLast_48 : decode cX6_wasLast 48 = .ok (.aload_n 0, 1) := by decide +kernel
theorem dX6_wasLast_49 : decode cX6_wasLast 49 = .ok (.getfield 118, 3) := by decide +kernel
theorem dX6_wasLast_52 : decode cX6_wasLast 52 = .ok (.iconst 5, 1) := by decide +kernel
theorem dX6_wasLast_53 : decode cX6_wasLast 53 = .ok (.if_icmp .ne 12, 3) := by decide +kernel
theorem dX6_wasLast_56 : decode cX6_wasLast 56 = .ok (.aload_n 0, 1) := by decide +kernel
theorem dX6_wasLast_57 : decode cX6_wasLast 57 = .ok (.bipush 6, 2) := by decide +kernel
theorem dX6_wasLast_59 : decode cX6_wasLast 59 = .ok (.invokevirtual 147, 3) := by decide +kernel
theorem dX6_wasLast_62 : decode cX6_wasLast 62 = .ok (.goto 45, 3) := by decide +kernel
theorem dX6_wasLast_65 : decode cX6_wasLast 65 = .ok (.iload_n 1, 1) := by decide +kernel
theorem dX6_wasLast_66 : decode cX6_wasLast 66 = .ok (.ifCond .eq 21, 3) := by decide +kernel
theorem dX6_wasLast_69 : decode cX6_wasLast 69 = .ok (.aload_n 0, 1) := by decide +kernel
theorem dX6_wasLast_70 : decode cX6_wasLast 70 = .ok (.getfield 118, 3) := by decide +kernel
theorem dX6_wasLast_73 : decode cX6_wasLast 73 = .ok (.bipush 8, 2) := by decide +kernel
theorem dX6_wasLast_75 : decode cX6_wasLast 75 = .ok (.if_icmp .ne 12, 3) := by decide +kernel
theorem dX6_wasLast_78 : decode cX6_wasLast 78 = .ok (.aload_n 0, 1) := by decide +kernel
theorem dX6_wasLast_79 : decode cX6_wasLast 79 = .ok (.bipush 10, 2) := by decide +kernel
theorem dX6_wasLast_81 : decode cX6_wasLast 81 = .ok (.invokevirtual 147, 3) := by decide +kernel
theorem dX6_wasLast_84 : decode cX6_wasLast 84 = .ok (.goto 23, 3) := by decide +kernel
theorem dX6_wasLast_87 : decode cX6_wasLast 87 = .ok (.iload_n 1, 1) := by decide +kernel
theorem dX6_wasLast_88 : decode cX6_wasLast 88 = .ok (.ifCond .eq 19, 3) := by decide +kernel
theorem dX6_wasLast_91 : decode cX6_wasLast 91 = .ok (.aload_n 0, 1) := by decide +kernel
theorem dX6_wasLast_92 : decode cX6_wasLast 92 = .ok (.getfield 118, 3) := by decide +kernel
theorem dX6_wasLast_95 : decode cX6_wasLast 95 = .ok (.bipush 9, 2) := by decide +kernel
theorem dX6_wasLast_97 : decode cX6_wasLast 97 = .ok (.if_icmp .ne 10, 3) := by decide +kernel
theorem dX6_wasLast_100 : decode cX6_wasLast 100 = .ok (.aload_n 0, 1) := by decide +kernel
theorem dX6_wasLast_101 : decode cX6_wasLast 101 = .ok (.iconst 0, 1) := by decide +kernel
theorem dX6_wasLast_102 : decode cX6_wasLast 102 = .ok (.invokevirtual 147, 3) := by decide +kernel
theorem dX6_wasLast_105 : decode cX6_wasLast 105 = .ok (.iconst 1, 1) := by decide +kernel
theorem dX6_wasLast_106 : decode cX6_wasLast 106 = .ok (.ireturn, 1) := by decide +kernel
theorem dX6_wasLast_107 : decode cX6_wasLast 107 = .ok (.iconst 0, 1) := by decide +kernel
theorem dX6_wasLast_108 : decode cX6_wasLast 108 = .ok (.ireturn, 1) := by decide +kernel
theorem dX6_take_0 : decode cX6_take 0 = .ok (.iload_n 2, 1) := by decide +kernel
theorem dX6_take_1 : decode cX6_take 1 = .ok (.aload_n 0, 1) := by decide +kernel
theorem dX6_take_2 : decode cX6_take 2 = .ok (.getfield 69, 3) := by decide +kernel
theorem dX6_take_5 : decode cX6_take 5 = .ok (.isub, 1) := by decide +kernel
theorem dX6_take_6 : decode cX6_take 6 = .ok (.istore_n 3, 1) := by decide +kernel
theorem dX6_take_7 : decode cX6_take 7 = .ok (.aload_n 0, 1) := by decide +kernel
theorem dX6_take_8 : decode cX6_take 8 = .ok (.getfield 118, 3) := by decide +kernel
theorem dX6_take_11 : decode cX6_take 11 = .ok (.iconst 4, 1) := by decide +kernel
theorem dX6_take_12 : decode cX6_take 12 = .ok (.if_icmp .eq 20, 3) := by decide +kernel
theorem dX6_take_15 : decode cX6_take 15 = .ok (.aload_n 0, 1) := by decide +kernel
theorem dX6_take_16 : decode cX6_take 16 = .ok (.getfield 118, 3) := by decide +kernel
theorem dX6_take_19 : decode cX6_take 19 = .ok (.iconst 5, 1) := by decide +kernel
theorem dX6_take_20 : decode cX6_take 20 = .ok (.if_icmp .eq 12, 3) := by decide +kernel
theorem dX6_take_23 : decode cX6_take 23 = .ok (.aload_n 0, 1) := by decide +kernel
theorem dX6_take_24 : decode cX6_take 24 = .ok (.getfield 118, 3) := by decide +kernel
theorem dX6_take_27 : decode cX6_take 27 = .ok (.bipush 6, 2) := by decide +kernel
theorem dX6_take_29 : decode cX6_take 29 = .ok (.if_icmp .ne 7, 3) := by decide +kernel
theorem dX6_take_32 : decode cX6_take 32 = .ok (.iconst 1, 1) := by decide +kernel
theorem dX6_take_33 : decode cX6_take 33 = .ok (.goto 4, 3) := by decide +kernel
theorem dX6_take_36 : decode cX6_take 36 = .ok (.iconst 0, 1) := by decide +kernel
theorem dX6_take_37 : decode cX6_take 37 = .ok (.istore 4, 2) := by decide +kernel
theorem dX6_take_39 : decode cX6_take 39 = .ok (.aload_n 0, 1) := by decide +kernel
theorem dX6_take_40 : decode cX6_take 40 = .ok (.invokevirtual 139, 3) := by decide +kernel
theorem dX6_take_43 : decode cX6_take 43 = .ok (.istore 5, 2) := by decide +kernel
theorem dX6_take_45 : decode cX6_take 45 = .ok (.iconst 0, 1) := by decide +kernel
theorem dX6_take_46 : decode cX6_take 46 = .ok (.istore 6, 2) := by decide +kernel
theorem dX6_take_48 : decode cX6_take 48 = .ok (.iload 6, 2) := by decide +kernel
theorem dX6_take_50 : decode cX6_take 50 = .ok (.aload_n 0, 1) := by decide +kernel
theorem dX6_take_51 : decode cX6_take 51 = .ok (.getfield 175, 3) := by decide +kernel
theorem dX6_take_54 : decode cX6_take 54 = .ok (.if_icmp .ge 113, 3) := by decide +kernel
theorem dX6_take_57 : decode cX6_take 57 = .ok (.iload 4, 2) := by decide +kernel
theorem dX6_take_59 : decode cX6_take 59 = .ok (.ifCond .eq 108, 3) := by decide +kernel
theorem dX6_take_62 : decode cX6_take 62 = .ok (.iload_n 3, 1) := by decide +kernel
theorem dX6_take_63 : decode cX6_take 63 = .ok (.iload 6, 2) := by decide +kernel
theorem dX6_take_65 : decode cX6_take 65 = .ok (.iadd, 1) := by decide +kernel
theorem dX6_take_66 : decode cX6_take 66 = .ok (.istore 7, 2) := by decide +kernel
