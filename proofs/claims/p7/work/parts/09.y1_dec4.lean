/-! written by program (wip/gen) -/
theorem dX6_sendAgain_94 : decode cX6_sendAgain 94 = .ok (.getfield 51, 3) := by decide +kernel
theorem dX6_sendAgain_97 : decode cX6_sendAgain 97 = .ok (.iload_n 3, 1) := by decide +kernel
theorem dX6_sendAgain_98 : decode cX6_sendAgain 98 = .ok (.invokevirtual 252, 3) := by decide +kernel
theorem dX6_sendAgain_101 : decode cX6_sendAgain 101 = .ok (.aload_n 0, 1) := by decide +kernel
theorem dX6_sendAgain_102 : decode cX6_sendAgain 102 = .ok (.aload_n 0, 1) := by decide +kernel
theorem dX6_sendAgain_103 : decode cX6_sendAgain 103 = .ok (.getfield 54, 3) := by decide +kernel
theorem dX6_sendAgain_106 : decode cX6_sendAgain 106 = .ok (.iconst 0, 1) := by decide +kernel
theorem dX6_sendAgain_107 : decode cX6_sendAgain 107 = .ok (.invokevirtual 255, 3) := by decide +kernel
theorem dX6_sendAgain_110 : decode cX6_sendAgain 110 = .ok (.return_, 1) := by decide +kernel
theorem dX6_sendOpen_0 : decode cX6_sendOpen 0 = .ok (.aload_n 0, 1) := by decide +kernel
theorem dX6_sendOpen_1 : decode cX6_sendOpen 1 = .ok (.iconst 0, 1) := by decide +kernel
theorem dX6_sendOpen_2 : decode cX6_sendOpen 2 = .ok (.putfield 103, 3) := by decide +kernel
theorem dX6_sendOpen_5 : decode cX6_sendOpen 5 = .ok (.aload_n 0, 1) := by decide +kernel
theorem dX6_sendOpen_6 : decode cX6_sendOpen 6 = .ok (.iconst 1, 1) := by decide +kernel
theorem dX6_sendOpen_7 : decode cX6_sendOpen 7 = .ok (.aload_n 0, 1) := by decide +kernel
theorem dX6_sendOpen_8 : decode cX6_sendOpen 8 = .ok (.getfield 48, 3) := by decide +kernel
theorem dX6_sendOpen_11 : decode cX6_sendOpen 11 = .ok (.iconst 0, 1) := by decide +kernel
theorem dX6_sendOpen_12 : decode cX6_sendOpen 12 = .ok (.invokevirtual 252, 3) := by decide +kernel
theorem dX6_sendOpen_15 : decode cX6_sendOpen 15 = .ok (.aload_n 0, 1) := by decide +kernel
theorem dX6_sendOpen_16 : decode cX6_sendOpen 16 = .ok (.aload_n 0, 1) := by decide +kernel
theorem dX6_sendOpen_17 : decode cX6_sendOpen 17 = .ok (.getfield 48, 3) := by decide +kernel
theorem dX6_sendOpen_20 : decode cX6_sendOpen 20 = .ok (.iconst 1, 1) := by decide +kernel
theorem dX6_sendOpen_21 : decode cX6_sendOpen 21 = .ok (.iadd, 1) := by decide +kernel
theorem dX6_sendOpen_22 : decode cX6_sendOpen 22 = .ok (.aload_n 0, 1) := by decide +kernel
theorem dX6_sendOpen_23 : decode cX6_sendOpen 23 = .ok (.getfield 100, 3) := by decide +kernel
theorem dX6_sendOpen_26 : decode cX6_sendOpen 26 = .ok (.ifCond .ne 7, 3) := by decide +kernel
theorem dX6_sendOpen_29 : decode cX6_sendOpen 29 = .ok (.iconst 1, 1) := by decide +kernel
theorem dX6_sendOpen_30 : decode cX6_sendOpen 30 = .ok (.goto 4, 3) := by decide +kernel
theorem dX6_sendOpen_33 : decode cX6_sendOpen 33 = .ok (.iconst 0, 1) := by decide +kernel
theorem dX6_sendOpen_34 : decode cX6_sendOpen 34 = .ok (.invokevirtual 255, 3) := by decide +kernel
theorem dX6_sendOpen_37 : decode cX6_sendOpen 37 = .ok (.aload_n 0, 1) := by decide +kernel
theorem dX6_sendOpen_38 : decode cX6_sendOpen 38 = .ok (.iconst 1, 1) := by decide +kernel
theorem dX6_sendOpen_39 : decode cX6_sendOpen 39 = .ok (.putfield 100, 3) := by decide +kernel
theorem dX6_sendOpen_42 : decode cX6_sendOpen 42 = .ok (.return_, 1) := by decide +kernel
theorem dX6_next_0 : decode cX6_next 0 = .ok (.aload_n 0, 1) := by decide +kernel
theorem dX6_next_1 : decode cX6_next 1 = .ok (.iconst 0, 1) := by decide +kernel
theorem dX6_next_2 : decode cX6_next 2 = .ok (.putfield 45, 3) := by decide +kernel
theorem dX6_next_5 : decode cX6_next 5 = .ok (.aload_n 0, 1) := by decide +kernel
theorem dX6_next_6 : decode cX6_next 6 = .ok (.getfield 150, 3) := by decide +kernel
theorem dX6_next_9 : decode cX6_next 9 = .ok (.ifCond .eq 28, 3) := by decide +kernel
theorem dX6_next_12 : decode cX6_next 12 = .ok (.aload_n 0, 1) := by decide +kernel
theorem dX6_next_13 : decode cX6_next 13 = .ok (.iconst 0, 1) := by decide +kernel
theorem dX6_next_14 : decode cX6_next 14 = .ok (.putfield 150, 3) := by decide +kernel
theorem dX6_next_17 : decode cX6_next 17 = .ok (.aload_n 0, 1) := by decide +kernel
theorem dX6_next_18 : decode cX6_next 18 = .ok (.aload_n 0, 1) := by decide +kernel
theorem dX6_next_19 : decode cX6_next 19 = .ok (.getfield 153, 3) := by decide +kernel
theorem dX6_next_22 : decode cX6_next 22 = .ok (.aload_n 0, 1) := by decide +kernel
theorem dX6_next_23 : decode cX6_next 23 = .ok (.getfield 156, 3) := by decide +kernel
theorem dX6_next_26 : decode cX6_next 26 = .ok (.aload_n 0, 1) := by decide +kernel
theorem dX6_next_27 : decode cX6_next 27 = .ok (.getfield 159, 3) := by decide +kernel
theorem dX6_next_30 : decode cX6_next 30 = .ok (.iconst 0, 1) := by decide +kernel
theorem dX6_next_31 : decode cX6_next 31 = .ok (.iconst 0, 1) := by decide +kernel
theorem dX6_next_32 : decode cX6_next 32 = .ok (.invokevirtual 249, 3) := by decide +kernel
theorem dX6_next_35 : decode cX6_next 35 = .ok (.iconst 1, 1) := by decide +kernel
theorem dX6_next_36 : decode cX6_next 36 = .ok (.ireturn, 1) := by decide +kernel
theorem dX6_next_37 : decode cX6_next 37 = .ok (.aload_n 0, 1) := by decide +kernel
theorem dX6_next_38 : decode cX6_next 38 = .ok (.getfield 103, 3) := by decide +kernel
theorem dX6_next_41 : decode cX6_next 41 = .ok (.ifCond .eq 9, 3) := by decide +kernel
theorem dX6_next_44 : decode cX6_next 44 = .ok (.aload_n 0, 1) := by decide +kernel
theorem dX6_next_45 : decode cX6_next 45 = .ok (.invokevirtual 262, 3) := by decide +kernel
theorem dX6_next_48 : decode cX6_next 48 = .ok (.iconst 1, 1) := by decide +kernel
theorem dX6_next_49 : decode cX6_next 49 = .ok (.ireturn, 1) := by decide +kernel
theorem dX6_next_50 : decode cX6_next 50 = .ok (.aload_n 0, 1) := by decide +kernel
theorem dX6_next_51 : decode cX6_next 51 = .ok (.getfield 106, 3) := by decide +kernel
theorem dX6_next_54 : decode cX6_next 54 = .ok (.ifCond .eq 9, 3) := by decide +kernel
theorem dX6_next_57 : decode cX6_next 57 = .ok (.aload_n 0, 1) := by decide +kernel
theorem dX6_next_58 : decode cX6_next 58 = .ok (.invokevirtual 265, 3) := by decide +kernel
theorem dX6_next_61 : decode cX6_next 61 = .ok (.iconst 1, 1) := by decide +kernel
theorem dX6_next_62 : decode cX6_next 62 = .ok (.ireturn, 1) := by decide +kernel
theorem dX6_next_63 : decode cX6_next 63 = .ok (.aload_n 0, 1) := by decide +kernel
theorem dX6_next_64 : decode cX6_next 64 = .ok (.invokevirtual 268, 3) := by decide +kernel
theorem dX6_next_67 : decode cX6_next 67 = .ok (.ifCond .eq 5, 3) := by decide +kernel
theorem dX6_next_70 : decode cX6_next 70 = .ok (.iconst 1, 1) := by decide +kernel
theorem dX6_next_71 : decode cX6_next 71 = .ok (.ireturn, 1) := by decide +kernel
theorem dX6_next_72 : decode cX6_next 72 = .ok (.aload_n 0, 1) := by decide +kernel
theorem dX6_next_73 : decode cX6_next 73 = .ok (.getfield 112, 3) := by decide +kernel
theorem dX6_next_76 : decode cX6_next 76 = .ok (.ifCond .eq 15, 3) := by decide +kernel
theorem dX6_next_79 : decode cX6_next 79 = .ok (.aload_n 0, 1) := by decide +kernel
theorem dX6_next_80 : decode cX6_next 80 = .ok (.iconst 0, 1) := by decide +kernel
theorem dX6_next_81 : decode cX6_next 81 = .ok (.aload_n 0, 1) := by decide +kernel
theorem dX6_next_82 : decode cX6_next 82 = .ok (.getfield 54, 3) := by decide +kernel
theorem dX6_next_85 : decode cX6_next 85 = .ok (.iconst 0, 1) := by decide +kernel
theorem dX6_next_86 : decode cX6_next 86 = .ok (.invokevirtual 252, 3) := by decide +kernel
theorem dX6_next_89 : decode cX6_next 89 = .ok (.iconst 1, 1) := by decide +kernel
theorem dX6_next_90 : decode cX6_next 90 = .ok (.ireturn, 1) := by decide +kernel
theorem dX6_next_91 : decode cX6_next 91 = .ok (.iconst 0, 1) := by decide +kernel
theorem dX6_next_92 : decode cX6_next 92 = .ok (.ireturn, 1) := by decide +kernel
theorem dX6_segment_0 : decode cX6_segment 0 = .ok (.aload_n 0, 1) := by decide +kernel
theorem dX6_segment_1 : decode cX6_segment 1 = .ok (.iload_n 1, 1) := by decide +kernel
theorem dX6_segment_2 : decode cX6_segment 2 = .ok (.ifCond .lt 8, 3) := by decide +kernel
theorem dX6_segment_5 : decode cX6_segment 5 = .ok (.iload_n 1, 1) := by decide +kernel
theorem dX6_segment_6 : decode cX6_segment 6 = .ok (.iconst 5, 1) := by decide +kernel
theorem dX6_segment_7 : decode cX6_segment 7 = .ok (.if_icmp .le 7, 3) := by decide +kernel
theorem dX6_segment_10 : decode cX6_segment 10 = .ok (.iconst 1, 1) := by decide +kernel
theorem dX6_segment_11 : decode cX6_segment 11 = .ok (.goto 15, 3) := by decide +kernel
theorem dX6_segment_14 : decode cX6_segment 14 = .ok (.aload_n 0, 1) := by decide +kernel
theorem dX6_segment_15 : decode cX6_segment 15 = .ok (.getfield 243, 3) := by decide +kernel
theorem dX6_segment_18 : decode cX6_segment 18 = .ok (.ifCond .eq 7, 3) := by decide +kernel
theorem dX6_segment_21 : decode cX6_segment 21 = .ok (.iconst 0, 1) := by decide +kernel
theorem dX6_segment_22 : decode cX6_segment 22 = .ok (.goto 4, 3) := by decide +kernel
theorem dX6_segment_25 : decode cX6_segment 25 = .ok (.iconst 2, 1) := by decide +kernel
theorem dX6_segment_26 : decode cX6_segment 26 = .ok (.putfield 45, 3) := by decide +kernel
theorem dX6_segment_29 : decode cX6_segment 29 = .ok (.aload_n 0, 1) := by decide +kernel
theorem dX6_segment_30 : decode cX6_segment 30 = .ok (.getfield 45, 3) := by decide +kernel
theorem dX6_segment_33 : decode cX6_segment 33 = .ok (.ifCond .le 7, 3) := by decide +kernel
theorem dX6_segment_36 : decode cX6_segment 36 = .ok (.iconst 0, 1) := by decide +kernel
theorem dX6_segment_37 : decode cX6_segment 37 = .ok (.goto 21, 3) := by decide +kernel
theorem dX6_segment_40 : decode cX6_segment 40 = .ok (.iload_n 1, 1) := by decide +kernel
theorem dX6_segment_41 : decode cX6_segment 41 = .ok (.iconst 5, 1) := by decide +kernel
theorem dX6_segment_42 : decode cX6_segment 42 = .ok (.if_icmp .ne 10, 3) := by decide +kernel
theorem dX6_segment_45 : decode cX6_segment 45 = .ok (.aload_n 0, 1) := by decide +kernel
theorem dX6_segment_46 : decode cX6_segment 46 = .ok (.getfield 246, 3) := by decide +kernel
theorem dX6_segment_49 : decode cX6_segment 49 = .ok (.goto 9, 3) := by decide +kernel
theorem dX6_segment_52 : decode cX6_segment 52 = .ok (.aload_n 0, 1) := by decide +kernel
theorem dX6_segment_53 : decode cX6_segment 53 = .ok (.getfield 30, 3) := by decide +kernel
theorem dX6_segment_56 : decode cX6_segment 56 = .ok (.iload_n 1, 1) := by decide +kernel
theorem dX6_segment_57 : decode cX6_segment 57 = .ok (.iaload, 1) := by decide +kernel
theorem dX6_segment_58 : decode cX6_segment 58 = .ok (.ireturn, 1) := by decide +kernel
theorem dX6_byteAt_0 : decode cX6_byteAt 0 = .ok (.aload_n 0, 1) := by decide +kernel
theorem dX6_byteAt_1 : decode cX6_byteAt 1 = .ok (.aload_n 0, 1) := by decide +kernel
theorem dX6_byteAt_2 : decode cX6_byteAt 2 = .ok (.getfield 243, 3) := by decide +kernel
theorem dX6_byteAt_5 : decode cX6_byteAt 5 = .ok (.ifCond .ne 7, 3) := by decide +kernel
theorem dX6_byteAt_8 : decode cX6_byteAt 8 = .ok (.iconst 1, 1) := by decide +kernel
theorem dX6_byteAt_9 : decode cX6_byteAt 9 = .ok (.goto 20, 3) := by decide +kernel
theorem dX6_byteAt_12 : decode cX6_byteAt 12 = .ok (.iload_n 1, 1) := by decide +kernel
theorem dX6_byteAt_13 : decode cX6_byteAt 13 = .ok (.ifCond .lt 11, 3) := by decide +kernel
theorem dX6_byteAt_16 : decode cX6_byteAt 16 = .ok (.iload_n 1, 1) := by decide +kernel
theorem dX6_byteAt_17 : decode cX6_byteAt 17 = .ok (.aload_n 0, 1) := by decide +kernel
theorem dX6_byteAt_18 : decode cX6_byteAt 18 = .ok (.getfield 246, 3) := by decide +kernel
theorem dX6_byteAt_21 : decode cX6_byteAt 21 = .ok (.if_icmp .lt 7, 3) := by decide +kernel
theorem dX6_byteAt_24 : decode cX6_byteAt 24 = .ok (.iconst 2, 1) := by decide +kernel
theorem dX6_byteAt_25 : decode cX6_byteAt 25 = .ok (.goto 4, 3) := by decide +kernel
theorem dX6_byteAt_28 : decode cX6_byteAt 28 = .ok (.iconst 0, 1) := by decide +kernel
theorem dX6_byteAt_29 : decode cX6_byteAt 29 = .ok (.putfield 45, 3) := by decide +kernel
theorem dX6_byteAt_32 : decode cX6_byteAt 32 = .ok (.aload_n 0, 1) := by decide +kernel
theorem dX6_byteAt_33 : decode cX6_byteAt 33 = .ok (.getfield 45, 3) := by decide +kernel
theorem dX6_byteAt_36 : decode cX6_byteAt 36 = .ok (.ifCond .le 7, 3) := by decide +kernel
theorem dX6_byteAt_39 : decode cX6_byteAt 39 = .ok (.iconst 0, 1) := by decide +kernel
theorem dX6_byteAt_40 : decode cX6_byteAt 40 = .ok (.goto 9, 3) := by decide +kernel
theorem dX6_byteAt_43 : decode cX6_byteAt 43 = .ok (.aload_n 0, 1) := by decide +kernel
theorem dX6_byteAt_44 : decode cX6_byteAt 44 = .ok (.getfield 33, 3) := by decide +kernel
theorem dX6_byteAt_47 : decode cX6_byteAt 47 = .ok (.iload_n 1, 1) := by decide +kernel
theorem dX6_byteAt_48 : decode cX6_byteAt 48 = .ok (.iaload, 1) := by decide +kernel
theorem dX6_byteAt_49 : decode cX6_byteAt 49 = .ok (.ireturn, 1) := by decide +kernel
theorem dX6_state_0 : decode cX6_state 0 = .ok (.aload_n 0, 1) := by decide +kernel
theorem dX6_state_1 : decode cX6_state 1 = .ok (.iconst 0, 1) := by decide +kernel
theorem dX6_state_2 : decode cX6_state 2 = .ok (.putfield 45, 3) := by decide +kernel
theorem dX6_state_5 : decode cX6_state 5 = .ok (.aload_n 0, 1) := by decide +kernel
theorem dX6_state_6 : decode cX6_state 6 = .ok (.getfield 118, 3) := by decide +kernel
theorem dX6_state_9 : decode cX6_state 9 = .ok (.ireturn, 1) := by decide +kernel
theorem dX6_figure_0 : decode cX6_figure 0 = .ok (.aload_n 0, 1) := by decide +kernel
theorem dX6_figure_1 : decode cX6_figure 1 = .ok (.iload_n 1, 1) := by decide +kernel
theorem dX6_figure_2 : decode cX6_figure 2 = .ok (.ifCond .lt 9, 3) := by decide +kernel
theorem dX6_figure_5 : decode cX6_figure 5 = .ok (.iload_n 1, 1) := by decide +kernel
theorem dX6_figure_6 : decode cX6_figure 6 = .ok (.bipush 12, 2) := by decide +kernel
theorem dX6_figure_8 : decode cX6_figure 8 = .ok (.if_icmp .le 7, 3) := by decide +kernel
theorem dX6_figure_11 : decode cX6_figure 11 = .ok (.iconst 1, 1) := by decide +kernel
theorem dX6_figure_12 : decode cX6_figure 12 = .ok (.goto 4, 3) := by decide +kernel
theorem dX6_figure_15 : decode cX6_figure 15 = .ok (.iconst 0, 1) := by decide +kernel
theorem dX6_figure_16 : decode cX6_figure 16 = .ok (.putfield 45, 3) := by decide +kernel
theorem dX6_figure_19 : decode cX6_figure 19 = .ok (.iload_n 1, 1) := by decide +kernel
theorem dX6_figure_20 : decode cX6_figure 20 = .ok (.tableswitch 149 0 12 #[68, 73, 78, 83, 88, 93, 98, 103, 108, 113, 118, 123, 128], 68) := by decide +kernel
theorem dX6_figure_88 : decode cX6_figure 88 = .ok (.aload_n 0, 1) := by decide +kernel
theorem dX6_figure_89 : decode cX6_figure 89 = .ok (.getfield 51, 3) := by decide +kernel
theorem dX6_figure_92 : decode cX6_figure 92 = .ok (.ireturn, 1) := by decide +kernel
theorem dX6_figure_93 : decode cX6_figure 93 = .ok (.aload_n 0, 1) := by decide +kernel
theorem dX6_figure_94 : decode cX6_figure 94 = .ok (.getfield 54, 3) := by decide +kernel
theorem dX6_figure_97 : decode cX6_figure 97 = .ok (.ireturn, 1) := by decide +kernel
theorem dX6_figure_98 : decode cX6_figure 98 = .ok (.aload_n 0, 1) := by decide +kernel
theorem dX6_figure_99 : decode cX6_figure 99 = .ok (.getfield 63, 3) := by decide +kernel
theorem dX6_figure_102 : decode cX6_figure 102 = .ok (.ireturn, 1) := by decide +kernel
theorem dX6_figure_103 : decode cX6_figure 103 = .ok (.aload_n 0, 1) := by decide +kernel
theorem dX6_figure_104 : decode cX6_figure 104 = .ok (.getfield 69, 3) := by decide +kernel
theorem dX6_figure_107 : decode cX6_figure 107 = .ok (.ireturn, 1) := by decide +kernel
theorem dX6_figure_108 : decode cX6_figure 108 = .ok (.aload_n 0, 1) := by decide +kernel
theorem dX6_figure_109 : decode cX6_figure 109 = .ok (.invokevirtual 139, 3) := by decide +kernel
theorem dX6_figure_112 : decode cX6_figure 112 = .ok (.ireturn, 1) := by decide +kernel
theorem dX6_figure_113 : decode cX6_figure 113 = .ok (.aload_n 0, 1) := by decide +kernel
theorem dX6_figure_114 : decode cX6_figure 114 = .ok (.getfield 24, 3) := by decide +kernel
theorem dX6_figure_117 : decode cX6_figure 117 = .ok (.ireturn, 1) := by decide +kernel
theorem dX6_figure_118 : decode cX6_figure 118 = .ok (.aload_n 0, 1) := by decide +kernel
theorem dX6_figure_119 : decode cX6_figure 119 = .ok (.getfield 60, 3) := by decide +kernel
theorem dX6_figure_122 : decode cX6_figure 122 = .ok (.ireturn, 1) := by decide +kernel
theorem dX6_figure_123 : decode cX6_figure 123 = .ok (.aload_n 0, 1) := by decide +kernel
theorem dX6_figure_124 : decode cX6_figure 124 = .ok (.getfield 66, 3) := by decide +kernel
theorem dX6_figure_127 : decode cX6_figure 127 = .ok (.ireturn, 1) := by decide +kernel
theorem dX6_figure_128 : decode cX6_figure 128 = .ok (.aload_n 0, 1) := by decide +kernel
theorem dX6_figure_129 : decode cX6_figure 129 = .ok (.getfield 88, 3) := by decide +kernel
theorem dX6_figure_132 : decode cX6_figure 132 = .ok (.ireturn, 1) := by decide +kernel
theorem dX6_figure_133 : decode cX6_figure 133 = .ok (.aload_n 0, 1) := by decide +kernel
theorem dX6_figure_134 : decode cX6_figure 134 = .ok (.getfield 42, 3) := by decide +kernel
theorem dX6_figure_137 : decode cX6_figure 137 = .ok (.ireturn, 1) := by decide +kernel
theorem dX6_figure_138 : decode cX6_figure 138 = .ok (.aload_n 0, 1) := by decide +kernel
theorem dX6_figure_139 : decode cX6_figure 139 = .ok (.getfield 94, 3) := by decide +kernel
theorem dX6_figure_142 : decode cX6_figure 142 = .ok (.ireturn, 1) := by decide +kernel
theorem dX6_figure_143 : decode cX6_figure 143 = .ok (.aload_n 0, 1) := by decide +kernel
theorem dX6_figure_144 : decode cX6_figure 144 = .ok (.getfield 97, 3) := by decide +kernel
theorem dX6_figure_147 : decode cX6_figure 147 = .ok (.ireturn, 1) := by decide +kernel
theorem dX6_figure_148 : decode cX6_figure 148 = .ok (.aload_n 0, 1) := by decide +kernel
theorem dX6_figure_149 : decode cX6_figure 149 = .ok (.getfield 20, 3) := by decide +kernel
theorem dX6_figure_152 : decode cX6_figure 152 = .ok (.ifCond .ge 7, 3) := by decide +kernel
theorem dX6_figure_155 : decode cX6_figure 155 = .ok (.iconst 0, 1) := by decide +kernel
theorem dX6_figure_156 : decode cX6_figure 156 = .ok (.goto 12, 3) := by decide +kernel
theorem dX6_figure_159 : decode cX6_figure 159 = .ok (.aload_n 0, 1) := by decide +kernel
theorem dX6_figure_160 : decode cX6_figure 160 = .ok (.getfield 20, 3) := by decide +kernel
theorem dX6_figure_163 : decode cX6_figure 163 = .ok (.aload_n 0, 1) := by decide +kernel
theorem dX6_figure_164 : decode cX6_figure 164 = .ok (.getfield 121, 3) := by decide +kernel
theorem dX6_figure_167 : decode cX6_figure 167 = .ok (.isub, 1) := by decide +kernel
theorem dX6_figure_168 : decode cX6_figure 168 = .ok (.ireturn, 1) := by decide +kernel
theorem dX6_figure_169 : decode cX6_figure 169 = .ok (.iconst 0, 1) := by decide +kernel
theorem dX6_figure_170 : decode cX6_figure 170 = .ok (.ireturn, 1) := by decide +kernel
theorem dX6_init_0 : decode cX6_init 0 = .ok (.aload_n 0, 1) := by decide +kernel
theorem dX6_init_1 : decode cX6_init 1 = .ok (.invokespecial 1, 3) := by decide +kernel
theorem dX6_init_4 : decode cX6_init 4 = .ok (.aload_n 0, 1) := by decide +kernel
theorem dX6_init_5 : decode cX6_init 5 = .ok (.sipush 2048, 3) := by decide +kernel
theorem dX6_init_8 : decode cX6_init 8 = .ok (.newarray .int, 2) := by decide +kernel
theorem dX6_init_10 : decode cX6_init 10 = .ok (.putfield 7, 3) := by decide +kernel
theorem dX6_init_13 : decode cX6_init 13 = .ok (.aload_n 0, 1) := by decide +kernel
theorem dX6_init_14 : decode cX6_init 14 = .ok (.sipush 2048, 3) := by decide +kernel
theorem dX6_init_17 : decode cX6_init 17 = .ok (.newarray .int, 2) := by decide +kernel
theorem dX6_init_19 : decode cX6_init 19 = .ok (.putfield 13, 3) := by decide +kernel
theorem dX6_init_22 : decode cX6_init 22 = .ok (.aload_n 0, 1) := by decide +kernel
theorem dX6_init_23 : decode cX6_init 23 = .ok (.sipush 2048, 3) := by decide +kernel
theorem dX6_init_26 : decode cX6_init 26 = .ok (.newarray .boolean, 2) := by decide +kernel
theorem dX6_init_28 : decode cX6_init 28 = .ok (.putfield 16, 3) := by decide +kernel
theorem dX6_init_31 : decode cX6_init 31 = .ok (.aload_n 0, 1) := by decide +kernel
theorem dX6_init_32 : decode cX6_init 32 = .ok (.iconst (-1), 1) := by decide +kernel
theorem dX6_init_33 : decode cX6_init 33 = .ok (.putfield 20, 3) := by decide +kernel
theorem dX6_init_36 : decode cX6_init 36 = .ok (.aload_n 0, 1) := by decide +kernel
theorem dX6_init_37 : decode cX6_init 37 = .ok (.bipush 60, 2) := by decide +kernel
theorem dX6_init_39 : decode cX6_init 39 = .ok (.putfield 24, 3) := by decide +kernel
theorem dX6_init_42 : decode cX6_init 42 = .ok (.aload_n 0, 1) := by decide +kernel
theorem dX6_init_43 : decode cX6_init 43 = .ok (.sipush 1460, 3) := by decide +kernel
theorem dX6_init_46 : decode cX6_init 46 = .ok (.newarray .int, 2) := by decide +kernel
theorem dX6_init_48 : decode cX6_init 48 = .ok (.putfield 27, 3) := by decide +kernel
theorem dX6_init_51 : decode cX6_init 51 = .ok (.aload_n 0, 1) := by decide +kernel
theorem dX6_init_52 : decode cX6_init 52 = .ok (.iconst 5, 1) := by decide +kernel
theorem dX6_init_53 : decode cX6_init 53 = .ok (.newarray .int, 2) := by decide +kernel
theorem dX6_init_55 : decode cX6_init 55 = .ok (.putfield 30, 3) := by decide +kernel
theorem dX6_init_58 : decode cX6_init 58 = .ok (.aload_n 0, 1) := by decide +kernel
theorem dX6_init_59 : decode cX6_init 59 = .ok (.sipush 1460, 3) := by decide +kernel
theorem dX6_init_62 : decode cX6_init 62 = .ok (.newarray .int, 2) := by decide +kernel
theorem dX6_init_64 : decode cX6_init 64 = .ok (.putfield 33, 3) := by decide +kernel
theorem dX6_init_67 : decode cX6_init 67 = .ok (.aload_n 0, 1) := by decide +kernel
theorem dX6_init_68 : decode cX6_init 68 = .ok (.iload_n 1, 1) := by decide +kernel
theorem dX6_init_69 : decode cX6_init 69 = .ok (.iconst 1, 1) := by decide +kernel
theorem dX6_init_70 : decode cX6_init 70 = .ok (.if_icmp .lt 10, 3) := by decide +kernel
theorem dX6_init_73 : decode cX6_init 73 = .ok (.iload_n 1, 1) := by decide +kernel
theorem dX6_init_74 : decode cX6_init 74 = .ok (.sipush 1460, 3) := by decide +kernel
theorem dX6_init_77 : decode cX6_init 77 = .ok (.if_icmp .le 9, 3) := by decide +kernel
theorem dX6_init_80 : decode cX6_init 80 = .ok (.sipush 536, 3) := by decide +kernel
theorem dX6_init_83 : decode cX6_init 83 = .ok (.goto 4, 3) := by decide +kernel
theorem dX6_init_86 : decode cX6_init 86 = .ok (.iload_n 1, 1) := by decide +kernel
theorem dX6_init_87 : decode cX6_init 87 = .ok (.putfield 36, 3) := by decide +kernel
theorem dX6_init_90 : decode cX6_init 90 = .ok (.aload_n 0, 1) := by decide +kernel
theorem dX6_init_91 : decode cX6_init 91 = .ok (.iload_n 2, 1) := by decide +kernel
theorem dX6_init_92 : decode cX6_init 92 = .ok (.iconst 1, 1) := by decide +kernel
theorem dX6_init_93 : decode cX6_init 93 = .ok (.if_icmp .lt 10, 3) := by decide +kernel
theorem dX6_init_96 : decode cX6_init 96 = .ok (.iload_n 2, 1) := by decide +kernel
theorem dX6_init_97 : decode cX6_init 97 = .ok (.sipush 4000, 3) := by decide +kernel
theorem dX6_init_100 : decode cX6_init 100 = .ok (.if_icmp .le 9, 3) := by decide +kernel
theorem dX6_init_103 : decode cX6_init 103 = .ok (.sipush 2000, 3) := by decide +kernel
theorem dX6_init_106 : decode cX6_init 106 = .ok (.goto 4, 3) := by decide +kernel
theorem dX6_init_109 : decode cX6_init 109 = .ok (.iload_n 2, 1) := by decide +kernel
theorem dX6_init_110 : decode cX6_init 110 = .ok (.putfield 39, 3) := by decide +kernel
theorem dX6_init_113 : decode cX6_init 113 = .ok (.aload_n 0, 1) := by decide +kernel
theorem dX6_init_114 : decode cX6_init 114 = .ok (.aload_n 0, 1) := by decide +kernel
theorem dX6_init_115 : decode cX6_init 115 = .ok (.getfield 36, 3) := by decide +kernel
theorem dX6_init_118 : decode cX6_init 118 = .ok (.putfield 42, 3) := by decide +kernel
theorem dX6_init_121 : decode cX6_init 121 = .ok (.return_, 1) := by decide +kernel
