/-! written by program (wip/gen) -/
theorem dX6_greet_23 : decode cX6_greet 23 = .ok (.iload 5, 2) := by decide +kernel
theorem dX6_greet_25 : decode cX6_greet 25 = .ok (.istore 6, 2) := by decide +kernel
theorem dX6_greet_27 : decode cX6_greet 27 = .ok (.aload_n 0, 1) := by decide +kernel
theorem dX6_greet_28 : decode cX6_greet 28 = .ok (.iload 6, 2) := by decide +kernel
theorem dX6_greet_30 : decode cX6_greet 30 = .ok (.aload_n 0, 1) := by decide +kernel
theorem dX6_greet_31 : decode cX6_greet 31 = .ok (.getfield 36, 3) := by decide +kernel
theorem dX6_greet_34 : decode cX6_greet 34 = .ok (.if_icmp .ge 8, 3) := by decide +kernel
theorem dX6_greet_37 : decode cX6_greet 37 = .ok (.iload 6, 2) := by decide +kernel
theorem dX6_greet_39 : decode cX6_greet 39 = .ok (.goto 7, 3) := by decide +kernel
theorem dX6_greet_42 : decode cX6_greet 42 = .ok (.aload_n 0, 1) := by decide +kernel
theorem dX6_greet_43 : decode cX6_greet 43 = .ok (.getfield 36, 3) := by decide +kernel
theorem dX6_greet_46 : decode cX6_greet 46 = .ok (.putfield 42, 3) := by decide +kernel
theorem dX6_greet_49 : decode cX6_greet 49 = .ok (.aload_n 0, 1) := by decide +kernel
theorem dX6_greet_50 : decode cX6_greet 50 = .ok (.iload 4, 2) := by decide +kernel
theorem dX6_greet_52 : decode cX6_greet 52 = .ok (.putfield 63, 3) := by decide +kernel
theorem dX6_greet_55 : decode cX6_greet 55 = .ok (.aload_n 0, 1) := by decide +kernel
theorem dX6_greet_56 : decode cX6_greet 56 = .ok (.iload_n 2, 1) := by decide +kernel
theorem dX6_greet_57 : decode cX6_greet 57 = .ok (.putfield 186, 3) := by decide +kernel
theorem dX6_greet_60 : decode cX6_greet 60 = .ok (.aload_n 0, 1) := by decide +kernel
theorem dX6_greet_61 : decode cX6_greet 61 = .ok (.iload_n 1, 1) := by decide +kernel
theorem dX6_greet_62 : decode cX6_greet 62 = .ok (.bipush 8, 2) := by decide +kernel
theorem dX6_greet_64 : decode cX6_greet 64 = .ok (.invokestatic 178, 3) := by decide +kernel
theorem dX6_greet_67 : decode cX6_greet 67 = .ok (.ifCond .eq 7, 3) := by decide +kernel
theorem dX6_greet_70 : decode cX6_greet 70 = .ok (.iload_n 3, 1) := by decide +kernel
theorem dX6_greet_71 : decode cX6_greet 71 = .ok (.goto 7, 3) := by decide +kernel
theorem dX6_greet_74 : decode cX6_greet 74 = .ok (.aload_n 0, 1) := by decide +kernel
theorem dX6_greet_75 : decode cX6_greet 75 = .ok (.getfield 48, 3) := by decide +kernel
theorem dX6_greet_78 : decode cX6_greet 78 = .ok (.putfield 189, 3) := by decide +kernel
theorem dX6_greet_81 : decode cX6_greet 81 = .ok (.return_, 1) := by decide +kernel
theorem dX6_toAsking_0 : decode cX6_toAsking 0 = .ok (.iload_n 1, 1) := by decide +kernel
theorem dX6_toAsking_1 : decode cX6_toAsking 1 = .ok (.bipush 8, 2) := by decide +kernel
theorem dX6_toAsking_3 : decode cX6_toAsking 3 = .ok (.invokestatic 178, 3) := by decide +kernel
theorem dX6_toAsking_6 : decode cX6_toAsking 6 = .ok (.istore 6, 2) := by decide +kernel
theorem dX6_toAsking_8 : decode cX6_toAsking 8 = .ok (.iload 6, 2) := by decide +kernel
theorem dX6_toAsking_10 : decode cX6_toAsking 10 = .ok (.ifCond .eq 21, 3) := by decide +kernel
theorem dX6_toAsking_13 : decode cX6_toAsking 13 = .ok (.iload_n 3, 1) := by decide +kernel
theorem dX6_toAsking_14 : decode cX6_toAsking 14 = .ok (.aload_n 0, 1) := by decide +kernel
theorem dX6_toAsking_15 : decode cX6_toAsking 15 = .ok (.getfield 54, 3) := by decide +kernel
theorem dX6_toAsking_18 : decode cX6_toAsking 18 = .ok (.if_icmp .eq 13, 3) := by decide +kernel
theorem dX6_toAsking_21 : decode cX6_toAsking 21 = .ok (.aload_n 0, 1) := by decide +kernel
theorem dX6_toAsking_22 : decode cX6_toAsking 22 = .ok (.iload_n 1, 1) := by decide +kernel
theorem dX6_toAsking_23 : decode cX6_toAsking 23 = .ok (.iload_n 2, 1) := by decide +kernel
theorem dX6_toAsking_24 : decode cX6_toAsking 24 = .ok (.iload_n 3, 1) := by decide +kernel
theorem dX6_toAsking_25 : decode cX6_toAsking 25 = .ok (.invokevirtual 192, 3) := by decide +kernel
theorem dX6_toAsking_28 : decode cX6_toAsking 28 = .ok (.goto 82, 3) := by decide +kernel
theorem dX6_toAsking_31 : decode cX6_toAsking 31 = .ok (.iload_n 1, 1) := by decide +kernel
theorem dX6_toAsking_32 : decode cX6_toAsking 32 = .ok (.iconst 4, 1) := by decide +kernel
theorem dX6_toAsking_33 : decode cX6_toAsking 33 = .ok (.invokestatic 178, 3) := by decide +kernel
theorem dX6_toAsking_36 : decode cX6_toAsking 36 = .ok (.ifCond .eq 17, 3) := by decide +kernel
theorem dX6_toAsking_39 : decode cX6_toAsking 39 = .ok (.iload 6, 2) := by decide +kernel
theorem dX6_toAsking_41 : decode cX6_toAsking 41 = .ok (.ifCond .eq 69, 3) := by decide +kernel
theorem dX6_toAsking_44 : decode cX6_toAsking 44 = .ok (.aload_n 0, 1) := by decide +kernel
theorem dX6_toAsking_45 : decode cX6_toAsking 45 = .ok (.bipush 11, 2) := by decide +kernel
theorem dX6_toAsking_47 : decode cX6_toAsking 47 = .ok (.invokevirtual 147, 3) := by decide +kernel
theorem dX6_toAsking_50 : decode cX6_toAsking 50 = .ok (.goto 60, 3) := by decide +kernel
theorem dX6_toAsking_53 : decode cX6_toAsking 53 = .ok (.iload_n 1, 1) := by decide +kernel
theorem dX6_toAsking_54 : decode cX6_toAsking 54 = .ok (.iconst 1, 1) := by decide +kernel
theorem dX6_toAsking_55 : decode cX6_toAsking 55 = .ok (.invokestatic 178, 3) := by decide +kernel
theorem dX6_toAsking_58 : decode cX6_toAsking 58 = .ok (.ifCond .eq 52, 3) := by decide +kernel
theorem dX6_toAsking_61 : decode cX6_toAsking 61 = .ok (.aload_n 0, 1) := by decide +kernel
theorem dX6_toAsking_62 : decode cX6_toAsking 62 = .ok (.iload_n 1, 1) := by decide +kernel
theorem dX6_toAsking_63 : decode cX6_toAsking 63 = .ok (.iload_n 2, 1) := by decide +kernel
theorem dX6_toAsking_64 : decode cX6_toAsking 64 = .ok (.iload_n 3, 1) := by decide +kernel
theorem dX6_toAsking_65 : decode cX6_toAsking 65 = .ok (.iload 4, 2) := by decide +kernel
theorem dX6_toAsking_67 : decode cX6_toAsking 67 = .ok (.iload 5, 2) := by decide +kernel
theorem dX6_toAsking_69 : decode cX6_toAsking 69 = .ok (.invokevirtual 196, 3) := by decide +kernel
theorem dX6_toAsking_72 : decode cX6_toAsking 72 = .ok (.iload 6, 2) := by decide +kernel
theorem dX6_toAsking_74 : decode cX6_toAsking 74 = .ok (.ifCond .eq 26, 3) := by decide +kernel
theorem dX6_toAsking_77 : decode cX6_toAsking 77 = .ok (.aload_n 0, 1) := by decide +kernel
theorem dX6_toAsking_78 : decode cX6_toAsking 78 = .ok (.iconst 4, 1) := by decide +kernel
theorem dX6_toAsking_79 : decode cX6_toAsking 79 = .ok (.putfield 118, 3) := by decide +kernel
theorem dX6_toAsking_82 : decode cX6_toAsking 82 = .ok (.aload_n 0, 1) := by decide +kernel
theorem dX6_toAsking_83 : decode cX6_toAsking 83 = .ok (.iconst 0, 1) := by decide +kernel
theorem dX6_toAsking_84 : decode cX6_toAsking 84 = .ok (.putfield 103, 3) := by decide +kernel
theorem dX6_toAsking_87 : decode cX6_toAsking 87 = .ok (.aload_n 0, 1) := by decide +kernel
theorem dX6_toAsking_88 : decode cX6_toAsking 88 = .ok (.iload_n 3, 1) := by decide +kernel
theorem dX6_toAsking_89 : decode cX6_toAsking 89 = .ok (.invokevirtual 200, 3) := by decide +kernel
theorem dX6_toAsking_92 : decode cX6_toAsking 92 = .ok (.aload_n 0, 1) := by decide +kernel
theorem dX6_toAsking_93 : decode cX6_toAsking 93 = .ok (.iconst 1, 1) := by decide +kernel
theorem dX6_toAsking_94 : decode cX6_toAsking 94 = .ok (.putfield 112, 3) := by decide +kernel
theorem dX6_toAsking_97 : decode cX6_toAsking 97 = .ok (.goto 13, 3) := by decide +kernel
theorem dX6_toAsking_100 : decode cX6_toAsking 100 = .ok (.aload_n 0, 1) := by decide +kernel
theorem dX6_toAsking_101 : decode cX6_toAsking 101 = .ok (.iconst 3, 1) := by decide +kernel
theorem dX6_toAsking_102 : decode cX6_toAsking 102 = .ok (.putfield 118, 3) := by decide +kernel
theorem dX6_toAsking_105 : decode cX6_toAsking 105 = .ok (.aload_n 0, 1) := by decide +kernel
theorem dX6_toAsking_106 : decode cX6_toAsking 106 = .ok (.iconst 1, 1) := by decide +kernel
theorem dX6_toAsking_107 : decode cX6_toAsking 107 = .ok (.putfield 103, 3) := by decide +kernel
theorem dX6_toAsking_110 : decode cX6_toAsking 110 = .ok (.return_, 1) := by decide +kernel
theorem dX6_toListening_0 : decode cX6_toListening 0 = .ok (.iload_n 1, 1) := by decide +kernel
theorem dX6_toListening_1 : decode cX6_toListening 1 = .ok (.iconst 4, 1) := by decide +kernel
theorem dX6_toListening_2 : decode cX6_toListening 2 = .ok (.invokestatic 178, 3) := by decide +kernel
theorem dX6_toListening_5 : decode cX6_toListening 5 = .ok (.ifCond .eq 4, 3) := by decide +kernel
theorem dX6_toListening_8 : decode cX6_toListening 8 = .ok (.return_, 1) := by decide +kernel
theorem dX6_toListening_9 : decode cX6_toListening 9 = .ok (.iload_n 1, 1) := by decide +kernel
theorem dX6_toListening_10 : decode cX6_toListening 10 = .ok (.bipush 8, 2) := by decide +kernel
theorem dX6_toListening_12 : decode cX6_toListening 12 = .ok (.invokestatic 178, 3) := by decide +kernel
theorem dX6_toListening_15 : decode cX6_toListening 15 = .ok (.ifCond .eq 13, 3) := by decide +kernel
theorem dX6_toListening_18 : decode cX6_toListening 18 = .ok (.aload_n 0, 1) := by decide +kernel
theorem dX6_toListening_19 : decode cX6_toListening 19 = .ok (.iload_n 1, 1) := by decide +kernel
theorem dX6_toListening_20 : decode cX6_toListening 20 = .ok (.iload_n 2, 1) := by decide +kernel
theorem dX6_toListening_21 : decode cX6_toListening 21 = .ok (.iload_n 3, 1) := by decide +kernel
theorem dX6_toListening_22 : decode cX6_toListening 22 = .ok (.invokevirtual 192, 3) := by decide +kernel
theorem dX6_toListening_25 : decode cX6_toListening 25 = .ok (.goto 42, 3) := by decide +kernel
theorem dX6_toListening_28 : decode cX6_toListening 28 = .ok (.iload_n 1, 1) := by decide +kernel
theorem dX6_toListening_29 : decode cX6_toListening 29 = .ok (.iconst 1, 1) := by decide +kernel
theorem dX6_toListening_30 : decode cX6_toListening 30 = .ok (.invokestatic 178, 3) := by decide +kernel
theorem dX6_toListening_33 : decode cX6_toListening 33 = .ok (.ifCond .eq 34, 3) := by decide +kernel
theorem dX6_toListening_36 : decode cX6_toListening 36 = .ok (.aload_n 0, 1) := by decide +kernel
theorem dX6_toListening_37 : decode cX6_toListening 37 = .ok (.iload_n 1, 1) := by decide +kernel
theorem dX6_toListening_38 : decode cX6_toListening 38 = .ok (.iload_n 2, 1) := by decide +kernel
theorem dX6_toListening_39 : decode cX6_toListening 39 = .ok (.iload_n 3, 1) := by decide +kernel
theorem dX6_toListening_40 : decode cX6_toListening 40 = .ok (.iload 4, 2) := by decide +kernel
theorem dX6_toListening_42 : decode cX6_toListening 42 = .ok (.iload 5, 2) := by decide +kernel
theorem dX6_toListening_44 : decode cX6_toListening 44 = .ok (.invokevirtual 196, 3) := by decide +kernel
theorem dX6_toListening_47 : decode cX6_toListening 47 = .ok (.aload_n 0, 1) := by decide +kernel
theorem dX6_toListening_48 : decode cX6_toListening 48 = .ok (.iconst 3, 1) := by decide +kernel
theorem dX6_toListening_49 : decode cX6_toListening 49 = .ok (.putfield 118, 3) := by decide +kernel
theorem dX6_toListening_52 : decode cX6_toListening 52 = .ok (.aload_n 0, 1) := by decide +kernel
theorem dX6_toListening_53 : decode cX6_toListening 53 = .ok (.aload_n 0, 1) := by decide +kernel
theorem dX6_toListening_54 : decode cX6_toListening 54 = .ok (.getfield 48, 3) := by decide +kernel
theorem dX6_toListening_57 : decode cX6_toListening 57 = .ok (.iconst 1, 1) := by decide +kernel
theorem dX6_toListening_58 : decode cX6_toListening 58 = .ok (.iadd, 1) := by decide +kernel
theorem dX6_toListening_59 : decode cX6_toListening 59 = .ok (.putfield 54, 3) := by decide +kernel
theorem dX6_toListening_62 : decode cX6_toListening 62 = .ok (.aload_n 0, 1) := by decide +kernel
theorem dX6_toListening_63 : decode cX6_toListening 63 = .ok (.iconst 1, 1) := by decide +kernel
theorem dX6_toListening_64 : decode cX6_toListening 64 = .ok (.putfield 103, 3) := by decide +kernel
theorem dX6_toListening_67 : decode cX6_toListening 67 = .ok (.return_, 1) := by decide +kernel
theorem dX6_arrive_0 : decode cX6_arrive 0 = .ok (.iload_n 1, 1) := by decide +kernel
theorem dX6_arrive_1 : decode cX6_arrive 1 = .ok (.ifCond .lt 37, 3) := by decide +kernel
theorem dX6_arrive_4 : decode cX6_arrive 4 = .ok (.iload_n 1, 1) := by decide +kernel
theorem dX6_arrive_5 : decode cX6_arrive 5 = .ok (.bipush 15, 2) := by decide +kernel
theorem dX6_arrive_7 : decode cX6_arrive 7 = .ok (.if_icmp .gt 31, 3) := by decide +kernel
theorem dX6_arrive_10 : decode cX6_arrive 10 = .ok (.iload 4, 2) := by decide +kernel
theorem dX6_arrive_12 : decode cX6_arrive 12 = .ok (.ifCond .lt 26, 3) := by decide +kernel
theorem dX6_arrive_15 : decode cX6_arrive 15 = .ok (.iload 4, 2) := by decide +kernel
theorem dX6_arrive_17 : decode cX6_arrive 17 = .ok (.ldc 232, 2) := by decide +kernel
theorem dX6_arrive_19 : decode cX6_arrive 19 = .ok (.if_icmp .gt 19, 3) := by decide +kernel
theorem dX6_arrive_22 : decode cX6_arrive 22 = .ok (.iload 5, 2) := by decide +kernel
theorem dX6_arrive_24 : decode cX6_arrive 24 = .ok (.ifCond .lt 14, 3) := by decide +kernel
theorem dX6_arrive_27 : decode cX6_arrive 27 = .ok (.iload 5, 2) := by decide +kernel
theorem dX6_arrive_29 : decode cX6_arrive 29 = .ok (.ldc 232, 2) := by decide +kernel
theorem dX6_arrive_31 : decode cX6_arrive 31 = .ok (.if_icmp .gt 7, 3) := by decide +kernel
theorem dX6_arrive_34 : decode cX6_arrive 34 = .ok (.iconst 1, 1) := by decide +kernel
theorem dX6_arrive_35 : decode cX6_arrive 35 = .ok (.goto 4, 3) := by decide +kernel
theorem dX6_arrive_38 : decode cX6_arrive 38 = .ok (.iconst 0, 1) := by decide +kernel
theorem dX6_arrive_39 : decode cX6_arrive 39 = .ok (.istore 6, 2) := by decide +kernel
theorem dX6_arrive_41 : decode cX6_arrive 41 = .ok (.aload_n 0, 1) := by decide +kernel
theorem dX6_arrive_42 : decode cX6_arrive 42 = .ok (.iload 6, 2) := by decide +kernel
theorem dX6_arrive_44 : decode cX6_arrive 44 = .ok (.ifCond .eq 7, 3) := by decide +kernel
theorem dX6_arrive_47 : decode cX6_arrive 47 = .ok (.iconst 0, 1) := by decide +kernel
theorem dX6_arrive_48 : decode cX6_arrive 48 = .ok (.goto 4, 3) := by decide +kernel
theorem dX6_arrive_51 : decode cX6_arrive 51 = .ok (.iconst 1, 1) := by decide +kernel
theorem dX6_arrive_52 : decode cX6_arrive 52 = .ok (.putfield 45, 3) := by decide +kernel
theorem dX6_arrive_55 : decode cX6_arrive 55 = .ok (.aload_n 0, 1) := by decide +kernel
theorem dX6_arrive_56 : decode cX6_arrive 56 = .ok (.getfield 45, 3) := by decide +kernel
theorem dX6_arrive_59 : decode cX6_arrive 59 = .ok (.ifCond .le 5, 3) := by decide +kernel
theorem dX6_arrive_62 : decode cX6_arrive 62 = .ok (.iconst 0, 1) := by decide +kernel
theorem dX6_arrive_63 : decode cX6_arrive 63 = .ok (.ireturn, 1) := by decide +kernel
theorem dX6_arrive_64 : decode cX6_arrive 64 = .ok (.aload_n 0, 1) := by decide +kernel
theorem dX6_arrive_65 : decode cX6_arrive 65 = .ok (.getfield 118, 3) := by decide +kernel
theorem dX6_arrive_68 : decode cX6_arrive 68 = .ok (.ifCond .eq 12, 3) := by decide +kernel
theorem dX6_arrive_71 : decode cX6_arrive 71 = .ok (.aload_n 0, 1) := by decide +kernel
theorem dX6_arrive_72 : decode cX6_arrive 72 = .ok (.getfield 118, 3) := by decide +kernel
theorem dX6_arrive_75 : decode cX6_arrive 75 = .ok (.bipush 11, 2) := by decide +kernel
theorem dX6_arrive_77 : decode cX6_arrive 77 = .ok (.if_icmp .ne 13, 3) := by decide +kernel
theorem dX6_arrive_80 : decode cX6_arrive 80 = .ok (.aload_n 0, 1) := by decide +kernel
theorem dX6_arrive_81 : decode cX6_arrive 81 = .ok (.iload_n 1, 1) := by decide +kernel
theorem dX6_arrive_82 : decode cX6_arrive 82 = .ok (.iload_n 2, 1) := by decide +kernel
theorem dX6_arrive_83 : decode cX6_arrive 83 = .ok (.iload_n 3, 1) := by decide +kernel
theorem dX6_arrive_84 : decode cX6_arrive 84 = .ok (.invokevirtual 192, 3) := by decide +kernel
theorem dX6_arrive_87 : decode cX6_arrive 87 = .ok (.goto 56, 3) := by decide +kernel
theorem dX6_arrive_90 : decode cX6_arrive 90 = .ok (.aload_n 0, 1) := by decide +kernel
theorem dX6_arrive_91 : decode cX6_arrive 91 = .ok (.getfield 118, 3) := by decide +kernel
theorem dX6_arrive_94 : decode cX6_arrive 94 = .ok (.iconst 1, 1) := by decide +kernel
theorem dX6_arrive_95 : decode cX6_arrive 95 = .ok (.if_icmp .ne 17, 3) := by decide +kernel
theorem dX6_arrive_98 : decode cX6_arrive 98 = .ok (.aload_n 0, 1) := by decide +kernel
theorem dX6_arrive_99 : decode cX6_arrive 99 = .ok (.iload_n 1, 1) := by decide +kernel
theorem dX6_arrive_100 : decode cX6_arrive 100 = .ok (.iload_n 2, 1) := by decide +kernel
theorem dX6_arrive_101 : decode cX6_arrive 101 = .ok (.iload_n 3, 1) := by decide +kernel
theorem dX6_arrive_102 : decode cX6_arrive 102 = .ok (.iload 4, 2) := by decide +kernel
theorem dX6_arrive_104 : decode cX6_arrive 104 = .ok (.iload 5, 2) := by decide +kernel
theorem dX6_arrive_106 : decode cX6_arrive 106 = .ok (.invokevirtual 233, 3) := by decide +kernel
theorem dX6_arrive_109 : decode cX6_arrive 109 = .ok (.goto 34, 3) := by decide +kernel
theorem dX6_arrive_112 : decode cX6_arrive 112 = .ok (.aload_n 0, 1) := by decide +kernel
theorem dX6_arrive_113 : decode cX6_arrive 113 = .ok (.getfield 118, 3) := by decide +kernel
theorem dX6_arrive_116 : decode cX6_arrive 116 = .ok (.iconst 2, 1) := by decide +kernel
theorem dX6_arrive_117 : decode cX6_arrive 117 = .ok (.if_icmp .ne 17, 3) := by decide +kernel
theorem dX6_arrive_120 : decode cX6_arrive 120 = .ok (.aload_n 0, 1) := by decide +kernel
theorem dX6_arrive_121 : decode cX6_arrive 121 = .ok (.iload_n 1, 1) := by decide +kernel
theorem dX6_arrive_122 : decode cX6_arrive 122 = .ok (.iload_n 2, 1) := by decide +kernel
theorem dX6_arrive_123 : decode cX6_arrive 123 = .ok (.iload_n 3, 1) := by decide +kernel
theorem dX6_arrive_124 : decode cX6_arrive 124 = .ok (.iload 4, 2) := by decide +kernel
theorem dX6_arrive_126 : decode cX6_arrive 126 = .ok (.iload 5, 2) := by decide +kernel
theorem dX6_arrive_128 : decode cX6_arrive 128 = .ok (.invokevirtual 236, 3) := by decide +kernel
theorem dX6_arrive_131 : decode cX6_arrive 131 = .ok (.goto 12, 3) := by decide +kernel
theorem dX6_arrive_134 : decode cX6_arrive 134 = .ok (.aload_n 0, 1) := by decide +kernel
theorem dX6_arrive_135 : decode cX6_arrive 135 = .ok (.iload_n 1, 1) := by decide +kernel
theorem dX6_arrive_136 : decode cX6_arrive 136 = .ok (.iload_n 2, 1) := by decide +kernel
theorem dX6_arrive_137 : decode cX6_arrive 137 = .ok (.iload_n 3, 1) := by decide +kernel
theorem dX6_arrive_138 : decode cX6_arrive 138 = .ok (.iload 4, 2) := by decide +kernel
theorem dX6_arrive_140 : decode cX6_arrive 140 = .ok (.invokevirtual 239, 3) := by decide +kernel
theorem dX6_arrive_143 : decode cX6_arrive 143 = .ok (.aload_n 0, 1) := by decide +kernel
theorem dX6_arrive_144 : decode cX6_arrive 144 = .ok (.iconst 0, 1) := by decide +kernel
theorem dX6_arrive_145 : decode cX6_arrive 145 = .ok (.putfield 175, 3) := by decide +kernel
theorem dX6_arrive_148 : decode cX6_arrive 148 = .ok (.aload_n 0, 1) := by decide +kernel
theorem dX6_arrive_149 : decode cX6_arrive 149 = .ok (.invokevirtual 136, 3) := by decide +kernel
theorem dX6_arrive_152 : decode cX6_arrive 152 = .ok (.aload_n 0, 1) := by decide +kernel
theorem dX6_arrive_153 : decode cX6_arrive 153 = .ok (.getfield 118, 3) := by decide +kernel
theorem dX6_arrive_156 : decode cX6_arrive 156 = .ok (.ireturn, 1) := by decide +kernel
theorem dX6_make_0 : decode cX6_make 0 = .ok (.aload_n 0, 1) := by decide +kernel
theorem dX6_make_1 : decode cX6_make 1 = .ok (.iconst 1, 1) := by decide +kernel
theorem dX6_make_2 : decode cX6_make 2 = .ok (.putfield 243, 3) := by decide +kernel
theorem dX6_make_5 : decode cX6_make 5 = .ok (.aload_n 0, 1) := by decide +kernel
theorem dX6_make_6 : decode cX6_make 6 = .ok (.getfield 30, 3) := by decide +kernel
theorem dX6_make_9 : decode cX6_make 9 = .ok (.iconst 0, 1) := by decide +kernel
theorem dX6_make_10 : decode cX6_make 10 = .ok (.iload_n 1, 1) := by decide +kernel
theorem dX6_make_11 : decode cX6_make 11 = .ok (.iastore, 1) := by decide +kernel
theorem dX6_make_12 : decode cX6_make 12 = .ok (.aload_n 0, 1) := by decide +kernel
theorem dX6_make_13 : decode cX6_make 13 = .ok (.getfield 30, 3) := by decide +kernel
theorem dX6_make_16 : decode cX6_make 16 = .ok (.iconst 1, 1) := by decide +kernel
theorem dX6_make_17 : decode cX6_make 17 = .ok (.iload_n 2, 1) := by decide +kernel
theorem dX6_make_18 : decode cX6_make 18 = .ok (.iastore, 1) := by decide +kernel
theorem dX6_make_19 : decode cX6_make 19 = .ok (.aload_n 0, 1) := by decide +kernel
theorem dX6_make_20 : decode cX6_make 20 = .ok (.getfield 30, 3) := by decide +kernel
theorem dX6_make_23 : decode cX6_make 23 = .ok (.iconst 2, 1) := by decide +kernel
theorem dX6_make_24 : decode cX6_make 24 = .ok (.iload_n 3, 1) := by decide +kernel
theorem dX6_make_25 : decode cX6_make 25 = .ok (.iastore, 1) := by decide +kernel
theorem dX6_make_26 : decode cX6_make 26 = .ok (.aload_n 0, 1) := by decide +kernel
theorem dX6_make_27 : decode cX6_make 27 = .ok (.getfield 30, 3) := by decide +kernel
theorem dX6_make_30 : decode cX6_make 30 = .ok (.iconst 3, 1) := by decide +kernel
theorem dX6_make_31 : decode cX6_make 31 = .ok (.iload 4, 2) := by decide +kernel
theorem dX6_make_33 : decode cX6_make 33 = .ok (.iastore, 1) := by decide +kernel
theorem dX6_make_34 : decode cX6_make 34 = .ok (.aload_n 0, 1) := by decide +kernel
theorem dX6_make_35 : decode cX6_make 35 = .ok (.getfield 30, 3) := by decide +kernel
theorem dX6_make_38 : decode cX6_make 38 = .ok (.iconst 4, 1) := by decide +kernel
theorem dX6_make_39 : decode cX6_make 39 = .ok (.iload 5, 2) := by decide +kernel
theorem dX6_make_41 : decode cX6_make 41 = .ok (.iastore, 1) := by decide +kernel
theorem dX6_make_42 : decode cX6_make 42 = .ok (.aload_n 0, 1) := by decide +kernel
theorem dX6_make_43 : decode cX6_make 43 = .ok (.iconst 0, 1) := by decide +kernel
theorem dX6_make_44 : decode cX6_make 44 = .ok (.putfield 246, 3) := by decide +kernel
theorem dX6_make_47 : decode cX6_make 47 = .ok (.return_, 1) := by decide +kernel
theorem dX6_tellBytes_0 : decode cX6_tellBytes 0 = .ok (.aload_n 0, 1) := by decide +kernel
theorem dX6_tellBytes_1 : decode cX6_tellBytes 1 = .ok (.iload_n 1, 1) := by decide +kernel
theorem dX6_tellBytes_2 : decode cX6_tellBytes 2 = .ok (.aload_n 0, 1) := by decide +kernel
theorem dX6_tellBytes_3 : decode cX6_tellBytes 3 = .ok (.getfield 72, 3) := by decide +kernel
theorem dX6_tellBytes_6 : decode cX6_tellBytes 6 = .ok (.ifCond .eq 8, 3) := by decide +kernel
theorem dX6_tellBytes_9 : decode cX6_tellBytes 9 = .ok (.bipush 8, 2) := by decide +kernel
theorem dX6_tellBytes_11 : decode cX6_tellBytes 11 = .ok (.goto 4, 3) := by decide +kernel
theorem dX6_tellBytes_14 : decode cX6_tellBytes 14 = .ok (.iconst 0, 1) := by decide +kernel
theorem dX6_tellBytes_15 : decode cX6_tellBytes 15 = .ok (.ior, 1) := by decide +kernel
theorem dX6_tellBytes_16 : decode cX6_tellBytes 16 = .ok (.iload_n 2, 1) := by decide +kernel
theorem dX6_tellBytes_17 : decode cX6_tellBytes 17 = .ok (.aload_n 0, 1) := by decide +kernel
theorem dX6_tellBytes_18 : decode cX6_tellBytes 18 = .ok (.getfield 72, 3) := by decide +kernel
theorem dX6_tellBytes_21 : decode cX6_tellBytes 21 = .ok (.ifCond .eq 10, 3) := by decide +kernel
theorem dX6_tellBytes_24 : decode cX6_tellBytes 24 = .ok (.aload_n 0, 1) := by decide +kernel
theorem dX6_tellBytes_25 : decode cX6_tellBytes 25 = .ok (.getfield 69, 3) := by decide +kernel
theorem dX6_tellBytes_28 : decode cX6_tellBytes 28 = .ok (.goto 4, 3) := by decide +kernel
theorem dX6_tellBytes_31 : decode cX6_tellBytes 31 = .ok (.iconst 0, 1) := by decide +kernel
theorem dX6_tellBytes_32 : decode cX6_tellBytes 32 = .ok (.aload_n 0, 1) := by decide +kernel
theorem dX6_tellBytes_33 : decode cX6_tellBytes 33 = .ok (.invokevirtual 139, 3) := by decide +kernel
theorem dX6_tellBytes_36 : decode cX6_tellBytes 36 = .ok (.iload_n 1, 1) := by decide +kernel
theorem dX6_tellBytes_37 : decode cX6_tellBytes 37 = .ok (.iconst 1, 1) := by decide +kernel
theorem dX6_tellBytes_38 : decode cX6_tellBytes 38 = .ok (.invokestatic 178, 3) := by decide +kernel
theorem dX6_tellBytes_41 : decode cX6_tellBytes 41 = .ok (.ifCond .eq 10, 3) := by decide +kernel
theorem dX6_tellBytes_44 : decode cX6_tellBytes 44 = .ok (.aload_n 0, 1) := by decide +kernel
theorem dX6_tellBytes_45 : decode cX6_tellBytes 45 = .ok (.getfield 36, 3) := by decide +kernel
theorem dX6_tellBytes_48 : decode cX6_tellBytes 48 = .ok (.goto 4, 3) := by decide +kernel
theorem dX6_tellBytes_51 : decode cX6_tellBytes 51 = .ok (.iconst 0, 1) := by decide +kernel
theorem dX6_tellBytes_52 : decode cX6_tellBytes 52 = .ok (.invokevirtual 249, 3) := by decide +kernel
theorem dX6_tellBytes_55 : decode cX6_tellBytes 55 = .ok (.iconst 0, 1) := by decide +kernel
theorem dX6_tellBytes_56 : decode cX6_tellBytes 56 = .ok (.istore 4, 2) := by decide +kernel
theorem dX6_tellBytes_58 : decode cX6_tellBytes 58 = .ok (.iload 4, 2) := by decide +kernel
theorem dX6_tellBytes_60 : decode cX6_tellBytes 60 = .ok (.iload_n 3, 1) := by decide +kernel
theorem dX6_tellBytes_61 : decode cX6_tellBytes 61 = .ok (.if_icmp .ge 30, 3) := by decide +kernel
theorem dX6_tellBytes_64 : decode cX6_tellBytes 64 = .ok (.aload_n 0, 1) := by decide +kernel
theorem dX6_tellBytes_65 : decode cX6_tellBytes 65 = .ok (.getfield 33, 3) := by decide +kernel
theorem dX6_tellBytes_68 : decode cX6_tellBytes 68 = .ok (.iload 4, 2) := by decide +kernel
theorem dX6_tellBytes_70 : decode cX6_tellBytes 70 = .ok (.aload_n 0, 1) := by decide +kernel
theorem dX6_tellBytes_71 : decode cX6_tellBytes 71 = .ok (.getfield 7, 3) := by decide +kernel
theorem dX6_tellBytes_74 : decode cX6_tellBytes 74 = .ok (.iload_n 2, 1) := by decide +kernel
theorem dX6_tellBytes_75 : decode cX6_tellBytes 75 = .ok (.aload_n 0, 1) := by decide +kernel
theorem dX6_tellBytes_76 : decode cX6_tellBytes 76 = .ok (.getfield 57, 3) := by decide +kernel
theorem dX6_tellBytes_79 : decode cX6_tellBytes 79 = .ok (.isub, 1) := by decide +kernel
theorem dX6_tellBytes_80 : decode cX6_tellBytes 80 = .ok (.iload 4, 2) := by decide +kernel
theorem dX6_tellBytes_82 : decode cX6_tellBytes 82 = .ok (.iadd, 1) := by decide +kernel
theorem dX6_tellBytes_83 : decode cX6_tellBytes 83 = .ok (.iaload, 1) := by decide +kernel
theorem dX6_tellBytes_84 : decode cX6_tellBytes 84 = .ok (.iastore, 1) := by decide +kernel
theorem dX6_tellBytes_85 : decode cX6_tellBytes 85 = .ok (.iinc 4 1, 3) := by decide +kernel
theorem dX6_tellBytes_88 : decode cX6_tellBytes 88 = .ok (.goto (-30), 3) := by decide +kernel
theorem dX6_tellBytes_91 : decode cX6_tellBytes 91 = .ok (.aload_n 0, 1) := by decide +kernel
theorem dX6_tellBytes_92 : decode cX6_tellBytes 92 = .ok (.iload_n 3, 1) := by decide +kernel
theorem dX6_tellBytes_93 : decode cX6_tellBytes 93 = .ok (.putfield 246, 3) := by decide +kernel
theorem dX6_tellBytes_96 : decode cX6_tellBytes 96 = .ok (.aload_n 0, 1) := by decide +kernel
theorem dX6_tellBytes_97 : decode cX6_tellBytes 97 = .ok (.aload_n 0, 1) := by decide +kernel
theorem dX6_tellBytes_98 : decode cX6_tellBytes 98 = .ok (.getfield 112, 3) := by decide +kernel
theorem dX6_tellBytes_101 : decode cX6_tellBytes 101 = .ok (.ifCond .eq 14, 3) := by decide +kernel
theorem dX6_tellBytes_104 : decode cX6_tellBytes 104 = .ok (.aload_n 0, 1) := by decide +kernel
theorem dX6_tellBytes_105 : decode cX6_tellBytes 105 = .ok (.getfield 72, 3) := by decide +kernel
theorem dX6_tellBytes_108 : decode cX6_tellBytes 108 = .ok (.ifCond .ne 7, 3) := by decide +kernel
theorem dX6_tellBytes_111 : decode cX6_tellBytes 111 = .ok (.iconst 1, 1) := by decide +kernel
theorem dX6_tellBytes_112 : decode cX6_tellBytes 112 = .ok (.goto 4, 3) := by decide +kernel
theorem dX6_tellBytes_115 : decode cX6_tellBytes 115 = .ok (.iconst 0, 1) := by decide +kernel
theorem dX6_tellBytes_116 : decode cX6_tellBytes 116 = .ok (.putfield 112, 3) := by decide +kernel
theorem dX6_tellBytes_119 : decode cX6_tellBytes 119 = .ok (.return_, 1) := by decide +kernel
theorem dX6_sent_0 : decode cX6_sent 0 = .ok (.iload_n 2, 1) := by decide +kernel
theorem dX6_sent_1 : decode cX6_sent 1 = .ok (.ifCond .ne 11, 3) := by decide +kernel
theorem dX6_sent_4 : decode cX6_sent 4 = .ok (.aload_n 0, 1) := by decide +kernel
theorem dX6_sent_5 : decode cX6_sent 5 = .ok (.iconst 0, 1) := by decide +kernel
theorem dX6_sent_6 : decode cX6_sent 6 = .ok (.putfield 115, 3) := by decide +kernel
theorem dX6_sent_9 : decode cX6_sent 9 = .ok (.goto 28, 3) := by decide +kernel
theorem dX6_sent_12 : decode cX6_sent 12 = .ok (.aload_n 0, 1) := by decide +kernel
theorem dX6_sent_13 : decode cX6_sent 13 = .ok (.getfield 115, 3) := by decide +kernel
theorem dX6_sent_16 : decode cX6_sent 16 = .ok (.ifCond .ne 21, 3) := by decide +kernel
theorem dX6_sent_19 : decode cX6_sent 19 = .ok (.aload_n 0, 1) := by decide +kernel
theorem dX6_sent_20 : decode cX6_sent 20 = .ok (.iconst 1, 1) := by decide +kernel
theorem dX6_sent_21 : decode cX6_sent 21 = .ok (.putfield 115, 3) := by decide +kernel
theorem dX6_sent_24 : decode cX6_sent 24 = .ok (.aload_n 0, 1) := by decide +kernel
theorem dX6_sent_25 : decode cX6_sent 25 = .ok (.iload_n 1, 1) := by decide +kernel
theorem dX6_sent_26 : decode cX6_sent 26 = .ok (.putfield 203, 3) := by decide +kernel
theorem dX6_sent_29 : decode cX6_sent 29 = .ok (.aload_n 0, 1) := by decide +kernel
theorem dX6_sent_30 : decode cX6_sent 30 = .ok (.aload_n 0, 1) := by decide +kernel
theorem dX6_sent_31 : decode cX6_sent 31 = .ok (.getfield 121, 3) := by decide +kernel
theorem dX6_sent_34 : decode cX6_sent 34 = .ok (.putfield 206, 3) := by decide +kernel
theorem dX6_sent_37 : decode cX6_sent 37 = .ok (.aload_n 0, 1) := by decide +kernel
theorem dX6_sent_38 : decode cX6_sent 38 = .ok (.aload_n 0, 1) := by decide +kernel
theorem dX6_sent_39 : decode cX6_sent 39 = .ok (.getfield 20, 3) := by decide +kernel
theorem dX6_sent_42 : decode cX6_sent 42 = .ok (.ifCond .ge 15, 3) := by decide +kernel
theorem dX6_sent_45 : decode cX6_sent 45 = .ok (.aload_n 0, 1) := by decide +kernel
theorem dX6_sent_46 : decode cX6_sent 46 = .ok (.getfield 121, 3) := by decide +kernel
theorem dX6_sent_49 : decode cX6_sent 49 = .ok (.aload_n 0, 1) := by decide +kernel
theorem dX6_sent_50 : decode cX6_sent 50 = .ok (.getfield 24, 3) := by decide +kernel
theorem dX6_sent_53 : decode cX6_sent 53 = .ok (.iadd, 1) := by decide +kernel
theorem dX6_sent_54 : decode cX6_sent 54 = .ok (.goto 7, 3) := by decide +kernel
theorem dX6_sent_57 : decode cX6_sent 57 = .ok (.aload_n 0, 1) := by decide +kernel
theorem dX6_sent_58 : decode cX6_sent 58 = .ok (.getfield 20, 3) := by decide +kernel
theorem dX6_sent_61 : decode cX6_sent 61 = .ok (.putfield 20, 3) := by decide +kernel
theorem dX6_sent_64 : decode cX6_sent 64 = .ok (.return_, 1) := by decide +kernel
theorem dX6_sendNew_0 : decode cX6_sendNew 0 = .ok (.aload_n 0, 1) := by decide +kernel
theorem dX6_sendNew_1 : decode cX6_sendNew 1 = .ok (.iload_n 2, 1) := by decide +kernel
theorem dX6_sendNew_2 : decode cX6_sendNew 2 = .ok (.ifCond .eq 7, 3) := by decide +kernel
theorem dX6_sendNew_5 : decode cX6_sendNew 5 = .ok (.iconst 2, 1) := by decide +kernel
theorem dX6_sendNew_6 : decode cX6_sendNew 6 = .ok (.goto 4, 3) := by decide +kernel
theorem dX6_sendNew_9 : decode cX6_sendNew 9 = .ok (.iconst 0, 1) := by decide +kernel
theorem dX6_sendNew_10 : decode cX6_sendNew 10 = .ok (.aload_n 0, 1) := by decide +kernel
theorem dX6_sendNew_11 : decode cX6_sendNew 11 = .ok (.getfield 54, 3) := by decide +kernel
theorem dX6_sendNew_14 : decode cX6_sendNew 14 = .ok (.iload_n 1, 1) := by decide +kernel
theorem dX6_sendNew_15 : decode cX6_sendNew 15 = .ok (.invokevirtual 252, 3) := by decide +kernel
theorem dX6_sendNew_18 : decode cX6_sendNew 18 = .ok (.aload_n 0, 1) := by decide +kernel
theorem dX6_sendNew_19 : decode cX6_sendNew 19 = .ok (.dup, 1) := by decide +kernel
theorem dX6_sendNew_20 : decode cX6_sendNew 20 = .ok (.getfield 54, 3) := by decide +kernel
theorem dX6_sendNew_23 : decode cX6_sendNew 23 = .ok (.iload_n 1, 1) := by decide +kernel
theorem dX6_sendNew_24 : decode cX6_sendNew 24 = .ok (.iload_n 2, 1) := by decide +kernel
theorem dX6_sendNew_25 : decode cX6_sendNew 25 = .ok (.ifCond .eq 7, 3) := by decide +kernel
theorem dX6_sendNew_28 : decode cX6_sendNew 28 = .ok (.iconst 1, 1) := by decide +kernel
theorem dX6_sendNew_29 : decode cX6_sendNew 29 = .ok (.goto 4, 3) := by decide +kernel
theorem dX6_sendNew_32 : decode cX6_sendNew 32 = .ok (.iconst 0, 1) := by decide +kernel
theorem dX6_sendNew_33 : decode cX6_sendNew 33 = .ok (.iadd, 1) := by decide +kernel
theorem dX6_sendNew_34 : decode cX6_sendNew 34 = .ok (.iadd, 1) := by decide +kernel
theorem dX6_sendNew_35 : decode cX6_sendNew 35 = .ok (.putfield 54, 3) := by decide +kernel
theorem dX6_sendNew_38 : decode cX6_sendNew 38 = .ok (.aload_n 0, 1) := by decide +kernel
theorem dX6_sendNew_39 : decode cX6_sendNew 39 = .ok (.aload_n 0, 1) := by decide +kernel
theorem dX6_sendNew_40 : decode cX6_sendNew 40 = .ok (.getfield 54, 3) := by decide +kernel
theorem dX6_sendNew_43 : decode cX6_sendNew 43 = .ok (.iconst 1, 1) := by decide +kernel
theorem dX6_sendNew_44 : decode cX6_sendNew 44 = .ok (.invokevirtual 255, 3) := by decide +kernel
theorem dX6_sendNew_47 : decode cX6_sendNew 47 = .ok (.return_, 1) := by decide +kernel
theorem dX6_sendFresh_0 : decode cX6_sendFresh 0 = .ok (.aload_n 0, 1) := by decide +kernel
theorem dX6_sendFresh_1 : decode cX6_sendFresh 1 = .ok (.invokevirtual 162, 3) := by decide +kernel
theorem dX6_sendFresh_4 : decode cX6_sendFresh 4 = .ok (.ifCond .ne 5, 3) := by decide +kernel
theorem dX6_sendFresh_7 : decode cX6_sendFresh 7 = .ok (.iconst 0, 1) := by decide +kernel
theorem dX6_sendFresh_8 : decode cX6_sendFresh 8 = .ok (.ireturn, 1) := by decide +kernel
theorem dX6_sendFresh_9 : decode cX6_sendFresh 9 = .ok (.aload_n 0, 1) := by decide +kernel
theorem dX6_sendFresh_10 : decode cX6_sendFresh 10 = .ok (.getfield 51, 3) := by decide +kernel
theorem dX6_sendFresh_13 : decode cX6_sendFresh 13 = .ok (.aload_n 0, 1) := by decide +kernel
theorem dX6_sendFresh_14 : decode cX6_sendFresh 14 = .ok (.getfield 63, 3) := by decide +kernel
theorem dX6_sendFresh_17 : decode cX6_sendFresh 17 = .ok (.iadd, 1) := by decide +kernel
theorem dX6_sendFresh_18 : decode cX6_sendFresh 18 = .ok (.aload_n 0, 1) := by decide +kernel
theorem dX6_sendFresh_19 : decode cX6_sendFresh 19 = .ok (.getfield 54, 3) := by decide +kernel
theorem dX6_sendFresh_22 : decode cX6_sendFresh 22 = .ok (.isub, 1) := by decide +kernel
theorem dX6_sendFresh_23 : decode cX6_sendFresh 23 = .ok (.istore_n 1, 1) := by decide +kernel
theorem dX6_sendFresh_24 : decode cX6_sendFresh 24 = .ok (.aload_n 0, 1) := by decide +kernel
theorem dX6_sendFresh_25 : decode cX6_sendFresh 25 = .ok (.invokevirtual 165, 3) := by decide +kernel
theorem dX6_sendFresh_28 : decode cX6_sendFresh 28 = .ok (.istore_n 2, 1) := by decide +kernel
theorem dX6_sendFresh_29 : decode cX6_sendFresh 29 = .ok (.iload_n 2, 1) := by decide +kernel
theorem dX6_sendFresh_30 : decode cX6_sendFresh 30 = .ok (.aload_n 0, 1) := by decide +kernel
theorem dX6_sendFresh_31 : decode cX6_sendFresh 31 = .ok (.getfield 42, 3) := by decide +kernel
theorem dX6_sendFresh_34 : decode cX6_sendFresh 34 = .ok (.if_icmp .ge 7, 3) := by decide +kernel
theorem dX6_sendFresh_37 : decode cX6_sendFresh 37 = .ok (.iload_n 2, 1) := by decide +kernel
theorem dX6_sendFresh_38 : decode cX6_sendFresh 38 = .ok (.goto 7, 3) := by decide +kernel
theorem dX6_sendFresh_41 : decode cX6_sendFresh 41 = .ok (.aload_n 0, 1) := by decide +kernel
theorem dX6_sendFresh_42 : decode cX6_sendFresh 42 = .ok (.getfield 42, 3) := by decide +kernel
theorem dX6_sendFresh_45 : decode cX6_sendFresh 45 = .ok (.istore_n 3, 1) := by decide +kernel
theorem dX6_sendFresh_46 : decode cX6_sendFresh 46 = .ok (.iload_n 3, 1) := by decide +kernel
theorem dX6_sendFresh_47 : decode cX6_sendFresh 47 = .ok (.iload_n 1, 1) := by decide +kernel
theorem dX6_sendFresh_48 : decode cX6_sendFresh 48 = .ok (.if_icmp .ge 7, 3) := by decide +kernel
theorem dX6_sendFresh_51 : decode cX6_sendFresh 51 = .ok (.iload_n 3, 1) := by decide +kernel
theorem dX6_sendFresh_52 : decode cX6_sendFresh 52 = .ok (.goto 4, 3) := by decide +kernel
theorem dX6_sendFresh_55 : decode cX6_sendFresh 55 = .ok (.iload_n 1, 1) := by decide +kernel
theorem dX6_sendFresh_56 : decode cX6_sendFresh 56 = .ok (.istore_n 3, 1) := by decide +kernel
theorem dX6_sendFresh_57 : decode cX6_sendFresh 57 = .ok (.iload_n 3, 1) := by decide +kernel
theorem dX6_sendFresh_58 : decode cX6_sendFresh 58 = .ok (.ifCond .ge 7, 3) := by decide +kernel
theorem dX6_sendFresh_61 : decode cX6_sendFresh 61 = .ok (.iconst 0, 1) := by decide +kernel
theorem dX6_sendFresh_62 : decode cX6_sendFresh 62 = .ok (.goto 4, 3) := by decide +kernel
theorem dX6_sendFresh_65 : decode cX6_sendFresh 65 = .ok (.iload_n 3, 1) := by decide +kernel
theorem dX6_sendFresh_66 : decode cX6_sendFresh 66 = .ok (.istore_n 3, 1) := by decide +kernel
theorem dX6_sendFresh_67 : decode cX6_sendFresh 67 = .ok (.aload_n 0, 1) := by decide +kernel
theorem dX6_sendFresh_68 : decode cX6_sendFresh 68 = .ok (.invokevirtual 168, 3) := by decide +kernel
theorem dX6_sendFresh_71 : decode cX6_sendFresh 71 = .ok (.ifCond .eq 17, 3) := by decide +kernel
theorem dX6_sendFresh_74 : decode cX6_sendFresh 74 = .ok (.iload_n 3, 1) := by decide +kernel
theorem dX6_sendFresh_75 : decode cX6_sendFresh 75 = .ok (.iload_n 2, 1) := by decide +kernel
theorem dX6_sendFresh_76 : decode cX6_sendFresh 76 = .ok (.if_icmp .ne 12, 3) := by decide +kernel
theorem dX6_sendFresh_79 : decode cX6_sendFresh 79 = .ok (.iload_n 1, 1) := by decide +kernel
theorem dX6_sendFresh_80 : decode cX6_sendFresh 80 = .ok (.iload_n 3, 1) := by decide +kernel
theorem dX6_sendFresh_81 : decode cX6_sendFresh 81 = .ok (.if_icmp .le 7, 3) := by decide +kernel
theorem dX6_sendFresh_84 : decode cX6_sendFresh 84 = .ok (.iconst 1, 1) := by decide +kernel
theorem dX6_sendFresh_85 : decode cX6_sendFresh 85 = .ok (.goto 4, 3) := by decide +kernel
theorem dX6_sendFresh_88 : decode cX6_sendFresh 88 = .ok (.iconst 0, 1) := by decide +kernel
theorem dX6_sendFresh_89 : decode cX6_sendFresh 89 = .ok (.istore 4, 2) := by decide +kernel
theorem dX6_sendFresh_91 : decode cX6_sendFresh 91 = .ok (.iload_n 3, 1) := by decide +kernel
theorem dX6_sendFresh_92 : decode cX6_sendFresh 92 = .ok (.ifCond .gt 8, 3) := by decide +kernel
theorem dX6_sendFresh_95 : decode cX6_sendFresh 95 = .ok (.iload 4, 2) := by decide +kernel
theorem dX6_sendFresh_97 : decode cX6_sendFresh 97 = .ok (.ifCond .eq 12, 3) := by decide +kernel
theorem dX6_sendFresh_100 : decode cX6_sendFresh 100 = .ok (.aload_n 0, 1) := by decide +kernel
theorem dX6_sendFresh_101 : decode cX6_sendFresh 101 = .ok (.iload_n 3, 1) := by decide +kernel
theorem dX6_sendFresh_102 : decode cX6_sendFresh 102 = .ok (.iload 4, 2) := by decide +kernel
theorem dX6_sendFresh_104 : decode cX6_sendFresh 104 = .ok (.invokevirtual 259, 3) := by decide +kernel
theorem dX6_sendFresh_107 : decode cX6_sendFresh 107 = .ok (.iconst 1, 1) := by decide +kernel
theorem dX6_sendFresh_108 : decode cX6_sendFresh 108 = .ok (.ireturn, 1) := by decide +kernel
theorem dX6_sendFresh_109 : decode cX6_sendFresh 109 = .ok (.aload_n 0, 1) := by decide +kernel
theorem dX6_sendFresh_110 : decode cX6_sendFresh 110 = .ok (.getfield 109, 3) := by decide +kernel
theorem dX6_sendFresh_113 : decode cX6_sendFresh 113 = .ok (.ifCond .ne 5, 3) := by decide +kernel
theorem dX6_sendFresh_116 : decode cX6_sendFresh 116 = .ok (.iconst 0, 1) := by decide +kernel
theorem dX6_sendFresh_117 : decode cX6_sendFresh 117 = .ok (.ireturn, 1) := by decide +kernel
theorem dX6_sendFresh_118 : decode cX6_sendFresh 118 = .ok (.aload_n 0, 1) := by decide +kernel
theorem dX6_sendFresh_119 : decode cX6_sendFresh 119 = .ok (.iconst 0, 1) := by decide +kernel
theorem dX6_sendFresh_120 : decode cX6_sendFresh 120 = .ok (.putfield 109, 3) := by decide +kernel
theorem dX6_sendFresh_123 : decode cX6_sendFresh 123 = .ok (.iload_n 2, 1) := by decide +kernel
theorem dX6_sendFresh_124 : decode cX6_sendFresh 124 = .ok (.ifCond .le 12, 3) := by decide +kernel
theorem dX6_sendFresh_127 : decode cX6_sendFresh 127 = .ok (.aload_n 0, 1) := by decide +kernel
theorem dX6_sendFresh_128 : decode cX6_sendFresh 128 = .ok (.iconst 1, 1) := by decide +kernel
theorem dX6_sendFresh_129 : decode cX6_sendFresh 129 = .ok (.iconst 0, 1) := by decide +kernel
theorem dX6_sendFresh_130 : decode cX6_sendFresh 130 = .ok (.invokevirtual 259, 3) := by decide +kernel
theorem dX6_sendFresh_133 : decode cX6_sendFresh 133 = .ok (.goto 9, 3) := by decide +kernel
theorem dX6_sendFresh_136 : decode cX6_sendFresh 136 = .ok (.aload_n 0, 1) := by decide +kernel
theorem dX6_sendFresh_137 : decode cX6_sendFresh 137 = .ok (.iconst 0, 1) := by decide +kernel
theorem dX6_sendFresh_138 : decode cX6_sendFresh 138 = .ok (.iconst 1, 1) := by decide +kernel
theorem dX6_sendFresh_139 : decode cX6_sendFresh 139 = .ok (.invokevirtual 259, 3) := by decide +kernel
theorem dX6_sendFresh_142 : decode cX6_sendFresh 142 = .ok (.iconst 1, 1) := by decide +kernel
theorem dX6_sendFresh_143 : decode cX6_sendFresh 143 = .ok (.ireturn, 1) := by decide +kernel
theorem dX6_sendAgain_0 : decode cX6_sendAgain 0 = .ok (.aload_n 0, 1) := by decide +kernel
theorem dX6_sendAgain_1 : decode cX6_sendAgain 1 = .ok (.iconst 0, 1) := by decide +kernel
theorem dX6_sendAgain_2 : decode cX6_sendAgain 2 = .ok (.putfield 106, 3) := by decide +kernel
theorem dX6_sendAgain_5 : decode cX6_sendAgain 5 = .ok (.aload_n 0, 1) := by decide +kernel
theorem dX6_sendAgain_6 : decode cX6_sendAgain 6 = .ok (.getfield 54, 3) := by decide +kernel
theorem dX6_sendAgain_9 : decode cX6_sendAgain 9 = .ok (.aload_n 0, 1) := by decide +kernel
theorem dX6_sendAgain_10 : decode cX6_sendAgain 10 = .ok (.getfield 51, 3) := by decide +kernel
theorem dX6_sendAgain_13 : decode cX6_sendAgain 13 = .ok (.isub, 1) := by decide +kernel
theorem dX6_sendAgain_14 : decode cX6_sendAgain 14 = .ok (.istore_n 1, 1) := by decide +kernel
theorem dX6_sendAgain_15 : decode cX6_sendAgain 15 = .ok (.aload_n 0, 1) := by decide +kernel
theorem dX6_sendAgain_16 : decode cX6_sendAgain 16 = .ok (.getfield 54, 3) := by decide +kernel
theorem dX6_sendAgain_19 : decode cX6_sendAgain 19 = .ok (.aload_n 0, 1) := by decide +kernel
theorem dX6_sendAgain_20 : decode cX6_sendAgain 20 = .ok (.getfield 57, 3) := by decide +kernel
theorem dX6_sendAgain_23 : decode cX6_sendAgain 23 = .ok (.isub, 1) := by decide +kernel
theorem dX6_sendAgain_24 : decode cX6_sendAgain 24 = .ok (.aload_n 0, 1) := by decide +kernel
theorem dX6_sendAgain_25 : decode cX6_sendAgain 25 = .ok (.getfield 60, 3) := by decide +kernel
theorem dX6_sendAgain_28 : decode cX6_sendAgain 28 = .ok (.if_icmp .le 10, 3) := by decide +kernel
theorem dX6_sendAgain_31 : decode cX6_sendAgain 31 = .ok (.aload_n 0, 1) := by decide +kernel
theorem dX6_sendAgain_32 : decode cX6_sendAgain 32 = .ok (.getfield 60, 3) := by decide +kernel
theorem dX6_sendAgain_35 : decode cX6_sendAgain 35 = .ok (.goto 12, 3) := by decide +kernel
theorem dX6_sendAgain_38 : decode cX6_sendAgain 38 = .ok (.aload_n 0, 1) := by decide +kernel
theorem dX6_sendAgain_39 : decode cX6_sendAgain 39 = .ok (.getfield 54, 3) := by decide +kernel
theorem dX6_sendAgain_42 : decode cX6_sendAgain 42 = .ok (.aload_n 0, 1) := by decide +kernel
theorem dX6_sendAgain_43 : decode cX6_sendAgain 43 = .ok (.getfield 57, 3) := by decide +kernel
theorem dX6_sendAgain_46 : decode cX6_sendAgain 46 = .ok (.isub, 1) := by decide +kernel
theorem dX6_sendAgain_47 : decode cX6_sendAgain 47 = .ok (.istore_n 2, 1) := by decide +kernel
theorem dX6_sendAgain_48 : decode cX6_sendAgain 48 = .ok (.iload_n 2, 1) := by decide +kernel
theorem dX6_sendAgain_49 : decode cX6_sendAgain 49 = .ok (.aload_n 0, 1) := by decide +kernel
theorem dX6_sendAgain_50 : decode cX6_sendAgain 50 = .ok (.getfield 42, 3) := by decide +kernel
theorem dX6_sendAgain_53 : decode cX6_sendAgain 53 = .ok (.if_icmp .ge 7, 3) := by decide +kernel
theorem dX6_sendAgain_56 : decode cX6_sendAgain 56 = .ok (.iload_n 2, 1) := by decide +kernel
theorem dX6_sendAgain_57 : decode cX6_sendAgain 57 = .ok (.goto 7, 3) := by decide +kernel
theorem dX6_sendAgain_60 : decode cX6_sendAgain 60 = .ok (.aload_n 0, 1) := by decide +kernel
theorem dX6_sendAgain_61 : decode cX6_sendAgain 61 = .ok (.getfield 42, 3) := by decide +kernel
theorem dX6_sendAgain_64 : decode cX6_sendAgain 64 = .ok (.istore_n 3, 1) := by decide +kernel
theorem dX6_sendAgain_65 : decode cX6_sendAgain 65 = .ok (.iload_n 1, 1) := by decide +kernel
theorem dX6_sendAgain_66 : decode cX6_sendAgain 66 = .ok (.iload_n 2, 1) := by decide +kernel
theorem dX6_sendAgain_67 : decode cX6_sendAgain 67 = .ok (.if_icmp .le 12, 3) := by decide +kernel
theorem dX6_sendAgain_70 : decode cX6_sendAgain 70 = .ok (.iload_n 3, 1) := by decide +kernel
theorem dX6_sendAgain_71 : decode cX6_sendAgain 71 = .ok (.iload_n 2, 1) := by decide +kernel
theorem dX6_sendAgain_72 : decode cX6_sendAgain 72 = .ok (.if_icmp .ne 7, 3) := by decide +kernel
theorem dX6_sendAgain_75 : decode cX6_sendAgain 75 = .ok (.iconst 1, 1) := by decide +kernel
theorem dX6_sendAgain_76 : decode cX6_sendAgain 76 = .ok (.goto 4, 3) := by decide +kernel
theorem dX6_sendAgain_79 : decode cX6_sendAgain 79 = .ok (.iconst 0, 1) := by decide +kernel
theorem dX6_sendAgain_80 : decode cX6_sendAgain 80 = .ok (.istore 4, 2) := by decide +kernel
theorem dX6_sendAgain_82 : decode cX6_sendAgain 82 = .ok (.aload_n 0, 1) := by decide +kernel
theorem dX6_sendAgain_83 : decode cX6_sendAgain 83 = .ok (.iload 4, 2) := by decide +kernel
theorem dX6_sendAgain_85 : decode cX6_sendAgain 85 = .ok (.ifCond .eq 7, 3) := by decide +kernel
theorem dX6_sendAgain_88 : decode cX6_sendAgain 88 = .ok (.iconst 2, 1) := by decide +kernel
theorem dX6_sendAgain_89 : decode cX6_sendAgain 89 = .ok (.goto 4, 3) := by decide +kernel
theorem dX6_sendAgain_92 : decode cX6_sendAgain 92 = .ok (.iconst 0, 1) := by decide +kernel
theorem dX6_sendAgain_93 : decode cX6_sendAgain 93 = .ok (.aload_n 0, 1) := by decide +kernel
