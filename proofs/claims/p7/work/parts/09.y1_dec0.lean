/-! written by program (wip/gen) -/
theorem dX6_thrown_0 : decode cX6_thrown 0 = .ok (.aload_n 0, 1) := by decide +kernel
theorem dX6_thrown_1 : decode cX6_thrown 1 = .ok (.getfield 45, 3) := by decide +kernel
theorem dX6_thrown_4 : decode cX6_thrown 4 = .ok (.ireturn, 1) := by decide +kernel
theorem dX6_quiesce_0 : decode cX6_quiesce 0 = .ok (.aload_n 0, 1) := by decide +kernel
theorem dX6_quiesce_1 : decode cX6_quiesce 1 = .ok (.iconst 0, 1) := by decide +kernel
theorem dX6_quiesce_2 : decode cX6_quiesce 2 = .ok (.putfield 103, 3) := by decide +kernel
theorem dX6_quiesce_5 : decode cX6_quiesce 5 = .ok (.aload_n 0, 1) := by decide +kernel
theorem dX6_quiesce_6 : decode cX6_quiesce 6 = .ok (.iconst 0, 1) := by decide +kernel
theorem dX6_quiesce_7 : decode cX6_quiesce 7 = .ok (.putfield 106, 3) := by decide +kernel
theorem dX6_quiesce_10 : decode cX6_quiesce 10 = .ok (.aload_n 0, 1) := by decide +kernel
theorem dX6_quiesce_11 : decode cX6_quiesce 11 = .ok (.iconst 0, 1) := by decide +kernel
theorem dX6_quiesce_12 : decode cX6_quiesce 12 = .ok (.putfield 109, 3) := by decide +kernel
theorem dX6_quiesce_15 : decode cX6_quiesce 15 = .ok (.aload_n 0, 1) := by decide +kernel
theorem dX6_quiesce_16 : decode cX6_quiesce 16 = .ok (.iconst 0, 1) := by decide +kernel
theorem dX6_quiesce_17 : decode cX6_quiesce 17 = .ok (.putfield 112, 3) := by decide +kernel
theorem dX6_quiesce_20 : decode cX6_quiesce 20 = .ok (.aload_n 0, 1) := by decide +kernel
theorem dX6_quiesce_21 : decode cX6_quiesce 21 = .ok (.iconst (-1), 1) := by decide +kernel
theorem dX6_quiesce_22 : decode cX6_quiesce 22 = .ok (.putfield 20, 3) := by decide +kernel
theorem dX6_quiesce_25 : decode cX6_quiesce 25 = .ok (.aload_n 0, 1) := by decide +kernel
theorem dX6_quiesce_26 : decode cX6_quiesce 26 = .ok (.iconst 0, 1) := by decide +kernel
theorem dX6_quiesce_27 : decode cX6_quiesce 27 = .ok (.putfield 115, 3) := by decide +kernel
theorem dX6_quiesce_30 : decode cX6_quiesce 30 = .ok (.return_, 1) := by decide +kernel
theorem dX6_clear_0 : decode cX6_clear 0 = .ok (.aload_n 0, 1) := by decide +kernel
theorem dX6_clear_1 : decode cX6_clear 1 = .ok (.iload_n 1, 1) := by decide +kernel
theorem dX6_clear_2 : decode cX6_clear 2 = .ok (.putfield 48, 3) := by decide +kernel
theorem dX6_clear_5 : decode cX6_clear 5 = .ok (.aload_n 0, 1) := by decide +kernel
theorem dX6_clear_6 : decode cX6_clear 6 = .ok (.iload_n 1, 1) := by decide +kernel
theorem dX6_clear_7 : decode cX6_clear 7 = .ok (.putfield 51, 3) := by decide +kernel
theorem dX6_clear_10 : decode cX6_clear 10 = .ok (.aload_n 0, 1) := by decide +kernel
theorem dX6_clear_11 : decode cX6_clear 11 = .ok (.iload_n 1, 1) := by decide +kernel
theorem dX6_clear_12 : decode cX6_clear 12 = .ok (.putfield 54, 3) := by decide +kernel
theorem dX6_clear_15 : decode cX6_clear 15 = .ok (.aload_n 0, 1) := by decide +kernel
theorem dX6_clear_16 : decode cX6_clear 16 = .ok (.iload_n 1, 1) := by decide +kernel
theorem dX6_clear_17 : decode cX6_clear 17 = .ok (.iconst 1, 1) := by decide +kernel
theorem dX6_clear_18 : decode cX6_clear 18 = .ok (.iadd, 1) := by decide +kernel
theorem dX6_clear_19 : decode cX6_clear 19 = .ok (.putfield 57, 3) := by decide +kernel
theorem dX6_clear_22 : decode cX6_clear 22 = .ok (.aload_n 0, 1) := by decide +kernel
theorem dX6_clear_23 : decode cX6_clear 23 = .ok (.iconst 0, 1) := by decide +kernel
theorem dX6_clear_24 : decode cX6_clear 24 = .ok (.putfield 60, 3) := by decide +kernel
theorem dX6_clear_27 : decode cX6_clear 27 = .ok (.aload_n 0, 1) := by decide +kernel
theorem dX6_clear_28 : decode cX6_clear 28 = .ok (.aload_n 0, 1) := by decide +kernel
theorem dX6_clear_29 : decode cX6_clear 29 = .ok (.getfield 36, 3) := by decide +kernel
theorem dX6_clear_32 : decode cX6_clear 32 = .ok (.putfield 42, 3) := by decide +kernel
theorem dX6_clear_35 : decode cX6_clear 35 = .ok (.aload_n 0, 1) := by decide +kernel
theorem dX6_clear_36 : decode cX6_clear 36 = .ok (.iconst 0, 1) := by decide +kernel
theorem dX6_clear_37 : decode cX6_clear 37 = .ok (.putfield 63, 3) := by decide +kernel
theorem dX6_clear_40 : decode cX6_clear 40 = .ok (.aload_n 0, 1) := by decide +kernel
theorem dX6_clear_41 : decode cX6_clear 41 = .ok (.iconst 0, 1) := by decide +kernel
theorem dX6_clear_42 : decode cX6_clear 42 = .ok (.putfield 66, 3) := by decide +kernel
theorem dX6_clear_45 : decode cX6_clear 45 = .ok (.aload_n 0, 1) := by decide +kernel
theorem dX6_clear_46 : decode cX6_clear 46 = .ok (.iconst 0, 1) := by decide +kernel
theorem dX6_clear_47 : decode cX6_clear 47 = .ok (.putfield 69, 3) := by decide +kernel
theorem dX6_clear_50 : decode cX6_clear 50 = .ok (.aload_n 0, 1) := by decide +kernel
theorem dX6_clear_51 : decode cX6_clear 51 = .ok (.iconst 0, 1) := by decide +kernel
theorem dX6_clear_52 : decode cX6_clear 52 = .ok (.putfield 72, 3) := by decide +kernel
theorem dX6_clear_55 : decode cX6_clear 55 = .ok (.aload_n 0, 1) := by decide +kernel
theorem dX6_clear_56 : decode cX6_clear 56 = .ok (.iconst 0, 1) := by decide +kernel
theorem dX6_clear_57 : decode cX6_clear 57 = .ok (.putfield 76, 3) := by decide +kernel
theorem dX6_clear_60 : decode cX6_clear 60 = .ok (.aload_n 0, 1) := by decide +kernel
theorem dX6_clear_61 : decode cX6_clear 61 = .ok (.iconst 0, 1) := by decide +kernel
theorem dX6_clear_62 : decode cX6_clear 62 = .ok (.putfield 79, 3) := by decide +kernel
theorem dX6_clear_65 : decode cX6_clear 65 = .ok (.aload_n 0, 1) := by decide +kernel
theorem dX6_clear_66 : decode cX6_clear 66 = .ok (.iconst 0, 1) := by decide +kernel
theorem dX6_clear_67 : decode cX6_clear 67 = .ok (.putfield 82, 3) := by decide +kernel
theorem dX6_clear_70 : decode cX6_clear 70 = .ok (.iconst 0, 1) := by decide +kernel
theorem dX6_clear_71 : decode cX6_clear 71 = .ok (.istore_n 2, 1) := by decide +kernel
theorem dX6_clear_72 : decode cX6_clear 72 = .ok (.iload_n 2, 1) := by decide +kernel
theorem dX6_clear_73 : decode cX6_clear 73 = .ok (.sipush 2048, 3) := by decide +kernel
theorem dX6_clear_76 : decode cX6_clear 76 = .ok (.if_icmp .ge 16, 3) := by decide +kernel
theorem dX6_clear_79 : decode cX6_clear 79 = .ok (.aload_n 0, 1) := by decide +kernel
theorem dX6_clear_80 : decode cX6_clear 80 = .ok (.getfield 16, 3) := by decide +kernel
theorem dX6_clear_83 : decode cX6_clear 83 = .ok (.iload_n 2, 1) := by decide +kernel
theorem dX6_clear_84 : decode cX6_clear 84 = .ok (.iconst 0, 1) := by decide +kernel
theorem dX6_clear_85 : decode cX6_clear 85 = .ok (.bastore, 1) := by decide +kernel
theorem dX6_clear_86 : decode cX6_clear 86 = .ok (.iinc 2 1, 3) := by decide +kernel
theorem dX6_clear_89 : decode cX6_clear 89 = .ok (.goto (-17), 3) := by decide +kernel
theorem dX6_clear_92 : decode cX6_clear 92 = .ok (.aload_n 0, 1) := by decide +kernel
theorem dX6_clear_93 : decode cX6_clear 93 = .ok (.invokevirtual 85, 3) := by decide +kernel
theorem dX6_clear_96 : decode cX6_clear 96 = .ok (.aload_n 0, 1) := by decide +kernel
theorem dX6_clear_97 : decode cX6_clear 97 = .ok (.bipush 60, 2) := by decide +kernel
theorem dX6_clear_99 : decode cX6_clear 99 = .ok (.putfield 24, 3) := by decide +kernel
theorem dX6_clear_102 : decode cX6_clear 102 = .ok (.aload_n 0, 1) := by decide +kernel
theorem dX6_clear_103 : decode cX6_clear 103 = .ok (.iconst 0, 1) := by decide +kernel
theorem dX6_clear_104 : decode cX6_clear 104 = .ok (.putfield 88, 3) := by decide +kernel
theorem dX6_clear_107 : decode cX6_clear 107 = .ok (.aload_n 0, 1) := by decide +kernel
theorem dX6_clear_108 : decode cX6_clear 108 = .ok (.iconst 0, 1) := by decide +kernel
theorem dX6_clear_109 : decode cX6_clear 109 = .ok (.putfield 91, 3) := by decide +kernel
theorem dX6_clear_112 : decode cX6_clear 112 = .ok (.aload_n 0, 1) := by decide +kernel
theorem dX6_clear_113 : decode cX6_clear 113 = .ok (.iconst 0, 1) := by decide +kernel
theorem dX6_clear_114 : decode cX6_clear 114 = .ok (.putfield 94, 3) := by decide +kernel
theorem dX6_clear_117 : decode cX6_clear 117 = .ok (.aload_n 0, 1) := by decide +kernel
theorem dX6_clear_118 : decode cX6_clear 118 = .ok (.iconst 0, 1) := by decide +kernel
theorem dX6_clear_119 : decode cX6_clear 119 = .ok (.putfield 97, 3) := by decide +kernel
theorem dX6_clear_122 : decode cX6_clear 122 = .ok (.aload_n 0, 1) := by decide +kernel
theorem dX6_clear_123 : decode cX6_clear 123 = .ok (.iconst 0, 1) := by decide +kernel
theorem dX6_clear_124 : decode cX6_clear 124 = .ok (.putfield 100, 3) := by decide +kernel
theorem dX6_clear_127 : decode cX6_clear 127 = .ok (.return_, 1) := by decide +kernel
theorem dX6_begin_0 : decode cX6_begin 0 = .ok (.aload_n 0, 1) := by decide +kernel
theorem dX6_begin_1 : decode cX6_begin 1 = .ok (.aload_n 0, 1) := by decide +kernel
theorem dX6_begin_2 : decode cX6_begin 2 = .ok (.getfield 118, 3) := by decide +kernel
theorem dX6_begin_5 : decode cX6_begin 5 = .ok (.ifCond .eq 12, 3) := by decide +kernel
theorem dX6_begin_8 : decode cX6_begin 8 = .ok (.aload_n 0, 1) := by decide +kernel
theorem dX6_begin_9 : decode cX6_begin 9 = .ok (.getfield 118, 3) := by decide +kernel
theorem dX6_begin_12 : decode cX6_begin 12 = .ok (.bipush 11, 2) := by decide +kernel
theorem dX6_begin_14 : decode cX6_begin 14 = .ok (.if_icmp .ne 7, 3) := by decide +kernel
theorem dX6_begin_17 : decode cX6_begin 17 = .ok (.iconst 0, 1) := by decide +kernel
theorem dX6_begin_18 : decode cX6_begin 18 = .ok (.goto 4, 3) := by decide +kernel
theorem dX6_begin_21 : decode cX6_begin 21 = .ok (.iconst 1, 1) := by decide +kernel
theorem dX6_begin_22 : decode cX6_begin 22 = .ok (.putfield 45, 3) := by decide +kernel
theorem dX6_begin_25 : decode cX6_begin 25 = .ok (.aload_n 0, 1) := by decide +kernel
theorem dX6_begin_26 : decode cX6_begin 26 = .ok (.getfield 45, 3) := by decide +kernel
theorem dX6_begin_29 : decode cX6_begin 29 = .ok (.ifCond .le 4, 3) := by decide +kernel
theorem dX6_begin_32 : decode cX6_begin 32 = .ok (.return_, 1) := by decide +kernel
theorem dX6_begin_33 : decode cX6_begin 33 = .ok (.aload_n 0, 1) := by decide +kernel
theorem dX6_begin_34 : decode cX6_begin 34 = .ok (.iload_n 1, 1) := by decide +kernel
theorem dX6_begin_35 : decode cX6_begin 35 = .ok (.invokevirtual 127, 3) := by decide +kernel
theorem dX6_begin_38 : decode cX6_begin 38 = .ok (.aload_n 0, 1) := by decide +kernel
theorem dX6_begin_39 : decode cX6_begin 39 = .ok (.iload_n 2, 1) := by decide +kernel
theorem dX6_begin_40 : decode cX6_begin 40 = .ok (.putfield 131, 3) := by decide +kernel
theorem dX6_begin_43 : decode cX6_begin 43 = .ok (.aload_n 0, 1) := by decide +kernel
theorem dX6_begin_44 : decode cX6_begin 44 = .ok (.iload_n 2, 1) := by decide +kernel
theorem dX6_begin_45 : decode cX6_begin 45 = .ok (.ifCond .eq 7, 3) := by decide +kernel
theorem dX6_begin_48 : decode cX6_begin 48 = .ok (.iconst 1, 1) := by decide +kernel
theorem dX6_begin_49 : decode cX6_begin 49 = .ok (.goto 4, 3) := by decide +kernel
theorem dX6_begin_52 : decode cX6_begin 52 = .ok (.iconst 2, 1) := by decide +kernel
theorem dX6_begin_53 : decode cX6_begin 53 = .ok (.putfield 118, 3) := by decide +kernel
theorem dX6_begin_56 : decode cX6_begin 56 = .ok (.iload_n 2, 1) := by decide +kernel
theorem dX6_begin_57 : decode cX6_begin 57 = .ok (.ifCond .ne 18, 3) := by decide +kernel
theorem dX6_begin_60 : decode cX6_begin 60 = .ok (.aload_n 0, 1) := by decide +kernel
theorem dX6_begin_61 : decode cX6_begin 61 = .ok (.iconst 1, 1) := by decide +kernel
theorem dX6_begin_62 : decode cX6_begin 62 = .ok (.putfield 103, 3) := by decide +kernel
theorem dX6_begin_65 : decode cX6_begin 65 = .ok (.aload_n 0, 1) := by decide +kernel
theorem dX6_begin_66 : decode cX6_begin 66 = .ok (.aload_n 0, 1) := by decide +kernel
theorem dX6_begin_67 : decode cX6_begin 67 = .ok (.getfield 48, 3) := by decide +kernel
theorem dX6_begin_70 : decode cX6_begin 70 = .ok (.iconst 1, 1) := by decide +kernel
theorem dX6_begin_71 : decode cX6_begin 71 = .ok (.iadd, 1) := by decide +kernel
theorem dX6_begin_72 : decode cX6_begin 72 = .ok (.putfield 54, 3) := by decide +kernel
theorem dX6_begin_75 : decode cX6_begin 75 = .ok (.return_, 1) := by decide +kernel
theorem dX6_sends_0 : decode cX6_sends 0 = .ok (.aload_n 0, 1) := by decide +kernel
theorem dX6_sends_1 : decode cX6_sends 1 = .ok (.getfield 118, 3) := by decide +kernel
theorem dX6_sends_4 : decode cX6_sends 4 = .ok (.iconst 4, 1) := by decide +kernel
theorem dX6_sends_5 : decode cX6_sends 5 = .ok (.if_icmp .eq 38, 3) := by decide +kernel
theorem dX6_sends_8 : decode cX6_sends 8 = .ok (.aload_n 0, 1) := by decide +kernel
theorem dX6_sends_9 : decode cX6_sends 9 = .ok (.getfield 118, 3) := by decide +kernel
theorem dX6_sends_12 : decode cX6_sends 12 = .ok (.iconst 5, 1) := by decide +kernel
theorem dX6_sends_13 : decode cX6_sends 13 = .ok (.if_icmp .eq 30, 3) := by decide +kernel
theorem dX6_sends_16 : decode cX6_sends 16 = .ok (.aload_n 0, 1) := by decide +kernel
theorem dX6_sends_17 : decode cX6_sends 17 = .ok (.getfield 118, 3) := by decide +kernel
theorem dX6_sends_20 : decode cX6_sends 20 = .ok (.bipush 7, 2) := by decide +kernel
theorem dX6_sends_22 : decode cX6_sends 22 = .ok (.if_icmp .eq 21, 3) := by decide +kernel
theorem dX6_sends_25 : decode cX6_sends 25 = .ok (.aload_n 0, 1) := by decide +kernel
theorem dX6_sends_26 : decode cX6_sends 26 = .ok (.getfield 118, 3) := by decide +kernel
theorem dX6_sends_29 : decode cX6_sends 29 = .ok (.bipush 8, 2) := by decide +kernel
theorem dX6_sends_31 : decode cX6_sends 31 = .ok (.if_icmp .eq 12, 3) := by decide +kernel
theorem dX6_sends_34 : decode cX6_sends 34 = .ok (.aload_n 0, 1) := by decide +kernel
theorem dX6_sends_35 : decode cX6_sends 35 = .ok (.getfield 118, 3) := by decide +kernel
theorem dX6_sends_38 : decode cX6_sends 38 = .ok (.bipush 9, 2) := by decide +kernel
theorem dX6_sends_40 : decode cX6_sends 40 = .ok (.if_icmp .ne 7, 3) := by decide +kernel
theorem dX6_sends_43 : decode cX6_sends 43 = .ok (.iconst 1, 1) := by decide +kernel
theorem dX6_sends_44 : decode cX6_sends 44 = .ok (.goto 4, 3) := by decide +kernel
theorem dX6_sends_47 : decode cX6_sends 47 = .ok (.iconst 0, 1) := by decide +kernel
theorem dX6_sends_48 : decode cX6_sends 48 = .ok (.ireturn, 1) := by decide +kernel
theorem dX6_unsent_0 : decode cX6_unsent 0 = .ok (.aload_n 0, 1) := by decide +kernel
theorem dX6_unsent_1 : decode cX6_unsent 1 = .ok (.getfield 60, 3) := by decide +kernel
theorem dX6_unsent_4 : decode cX6_unsent 4 = .ok (.aload_n 0, 1) := by decide +kernel
theorem dX6_unsent_5 : decode cX6_unsent 5 = .ok (.getfield 54, 3) := by decide +kernel
theorem dX6_unsent_8 : decode cX6_unsent 8 = .ok (.aload_n 0, 1) := by decide +kernel
theorem dX6_unsent_9 : decode cX6_unsent 9 = .ok (.getfield 57, 3) := by decide +kernel
theorem dX6_unsent_12 : decode cX6_unsent 12 = .ok (.isub, 1) := by decide +kernel
theorem dX6_unsent_13 : decode cX6_unsent 13 = .ok (.isub, 1) := by decide +kernel
theorem dX6_unsent_14 : decode cX6_unsent 14 = .ok (.ireturn, 1) := by decide +kernel
theorem dX6_owesLast_0 : decode cX6_owesLast 0 = .ok (.aload_n 0, 1) := by decide +kernel
theorem dX6_owesLast_1 : decode cX6_owesLast 1 = .ok (.getfield 82, 3) := by decide +kernel
theorem dX6_owesLast_4 : decode cX6_owesLast 4 = .ok (.ifCond .eq 23, 3) := by decide +kernel
theorem dX6_owesLast_7 : decode cX6_owesLast 7 = .ok (.aload_n 0, 1) := by decide +kernel
theorem dX6_owesLast_8 : decode cX6_owesLast 8 = .ok (.getfield 54, 3) := by decide +kernel
theorem dX6_owesLast_11 : decode cX6_owesLast 11 = .ok (.aload_n 0, 1) := by decide +kernel
theorem dX6_owesLast_12 : decode cX6_owesLast 12 = .ok (.getfield 57, 3) := by decide +kernel
theorem dX6_owesLast_15 : decode cX6_owesLast 15 = .ok (.isub, 1) := by decide +kernel
theorem dX6_owesLast_16 : decode cX6_owesLast 16 = .ok (.aload_n 0, 1) := by decide +kernel
theorem dX6_owesLast_17 : decode cX6_owesLast 17 = .ok (.getfield 60, 3) := by decide +kernel
theorem dX6_owesLast_20 : decode cX6_owesLast 20 = .ok (.if_icmp .gt 7, 3) := by decide +kernel
theorem dX6_owesLast_23 : decode cX6_owesLast 23 = .ok (.iconst 1, 1) := by decide +kernel
theorem dX6_owesLast_24 : decode cX6_owesLast 24 = .ok (.goto 4, 3) := by decide +kernel
theorem dX6_owesLast_27 : decode cX6_owesLast 27 = .ok (.iconst 0, 1) := by decide +kernel
theorem dX6_owesLast_28 : decode cX6_owesLast 28 = .ok (.ireturn, 1) := by decide +kernel
theorem dX6_watch_0 : decode cX6_watch 0 = .ok (.aload_n 0, 1) := by decide +kernel
theorem dX6_watch_1 : decode cX6_watch 1 = .ok (.invokevirtual 162, 3) := by decide +kernel
theorem dX6_watch_4 : decode cX6_watch 4 = .ok (.ifCond .eq 39, 3) := by decide +kernel
theorem dX6_watch_7 : decode cX6_watch 7 = .ok (.aload_n 0, 1) := by decide +kernel
theorem dX6_watch_8 : decode cX6_watch 8 = .ok (.getfield 51, 3) := by decide +kernel
theorem dX6_watch_11 : decode cX6_watch 11 = .ok (.aload_n 0, 1) := by decide +kernel
theorem dX6_watch_12 : decode cX6_watch 12 = .ok (.getfield 54, 3) := by decide +kernel
theorem dX6_watch_15 : decode cX6_watch 15 = .ok (.if_icmp .ne 28, 3) := by decide +kernel
theorem dX6_watch_18 : decode cX6_watch 18 = .ok (.aload_n 0, 1) := by decide +kernel
theorem dX6_watch_19 : decode cX6_watch 19 = .ok (.getfield 63, 3) := by decide +kernel
theorem dX6_watch_22 : decode cX6_watch 22 = .ok (.ifCond .ne 21, 3) := by decide +kernel
theorem dX6_watch_25 : decode cX6_watch 25 = .ok (.aload_n 0, 1) := by decide +kernel
theorem dX6_watch_26 : decode cX6_watch 26 = .ok (.invokevirtual 165, 3) := by decide +kernel
theorem dX6_watch_29 : decode cX6_watch 29 = .ok (.ifCond .gt 10, 3) := by decide +kernel
theorem dX6_watch_32 : decode cX6_watch 32 = .ok (.aload_n 0, 1) := by decide +kernel
theorem dX6_watch_33 : decode cX6_watch 33 = .ok (.invokevirtual 168, 3) := by decide +kernel
theorem dX6_watch_36 : decode cX6_watch 36 = .ok (.ifCond .eq 7, 3) := by decide +kernel
theorem dX6_watch_39 : decode cX6_watch 39 = .ok (.iconst 1, 1) := by decide +kernel
theorem dX6_watch_40 : decode cX6_watch 40 = .ok (.goto 4, 3) := by decide +kernel
theorem dX6_watch_43 : decode cX6_watch 43 = .ok (.iconst 0, 1) := by decide +kernel
theorem dX6_watch_44 : decode cX6_watch 44 = .ok (.istore_n 1, 1) := by decide +kernel
theorem dX6_watch_45 : decode cX6_watch 45 = .ok (.iload_n 1, 1) := by decide +kernel
theorem dX6_watch_46 : decode cX6_watch 46 = .ok (.ifCond .eq 23, 3) := by decide +kernel
theorem dX6_watch_49 : decode cX6_watch 49 = .ok (.aload_n 0, 1) := by decide +kernel
theorem dX6_watch_50 : decode cX6_watch 50 = .ok (.getfield 20, 3) := by decide +kernel
theorem dX6_watch_53 : decode cX6_watch 53 = .ok (.ifCond .ge 16, 3) := by decide +kernel
theorem dX6_watch_56 : decode cX6_watch 56 = .ok (.aload_n 0, 1) := by decide +kernel
theorem dX6_watch_57 : decode cX6_watch 57 = .ok (.aload_n 0, 1) := by decide +kernel
theorem dX6_watch_58 : decode cX6_watch 58 = .ok (.getfield 121, 3) := by decide +kernel
theorem dX6_watch_61 : decode cX6_watch 61 = .ok (.aload_n 0, 1) := by decide +kernel
theorem dX6_watch_62 : decode cX6_watch 62 = .ok (.getfield 24, 3) := by decide +kernel
theorem dX6_watch_65 : decode cX6_watch 65 = .ok (.iadd, 1) := by decide +kernel
theorem dX6_watch_66 : decode cX6_watch 66 = .ok (.putfield 20, 3) := by decide +kernel
theorem dX6_watch_69 : decode cX6_watch 69 = .ok (.return_, 1) := by decide +kernel
theorem dX6_write_0 : decode cX6_write 0 = .ok (.aload_n 0, 1) := by decide +kernel
theorem dX6_write_1 : decode cX6_write 1 = .ok (.getfield 82, 3) := by decide +kernel
theorem dX6_write_4 : decode cX6_write 4 = .ok (.ifCond .ne 27, 3) := by decide +kernel
theorem dX6_write_7 : decode cX6_write 7 = .ok (.aload_n 0, 1) := by decide +kernel
theorem dX6_write_8 : decode cX6_write 8 = .ok (.getfield 118, 3) := by decide +kernel
theorem dX6_write_11 : decode cX6_write 11 = .ok (.ifCond .eq 20, 3) := by decide +kernel
theorem dX6_write_14 : decode cX6_write 14 = .ok (.aload_n 0, 1) := by decide +kernel
theorem dX6_write_15 : decode cX6_write 15 = .ok (.getfield 118, 3) := by decide +kernel
theorem dX6_write_18 : decode cX6_write 18 = .ok (.iconst 1, 1) := by decide +kernel
theorem dX6_write_19 : decode cX6_write 19 = .ok (.if_icmp .eq 12, 3) := by decide +kernel
theorem dX6_write_22 : decode cX6_write 22 = .ok (.aload_n 0, 1) := by decide +kernel
theorem dX6_write_23 : decode cX6_write 23 = .ok (.getfield 118, 3) := by decide +kernel
theorem dX6_write_26 : decode cX6_write 26 = .ok (.bipush 11, 2) := by decide +kernel
theorem dX6_write_28 : decode cX6_write 28 = .ok (.if_icmp .ne 7, 3) := by decide +kernel
theorem dX6_write_31 : decode cX6_write 31 = .ok (.iconst 1, 1) := by decide +kernel
theorem dX6_write_32 : decode cX6_write 32 = .ok (.goto 4, 3) := by decide +kernel
theorem dX6_write_35 : decode cX6_write 35 = .ok (.iconst 0, 1) := by decide +kernel
theorem dX6_write_36 : decode cX6_write 36 = .ok (.istore 4, 2) := by decide +kernel
theorem dX6_write_38 : decode cX6_write 38 = .ok (.aload_n 0, 1) := by decide +kernel
theorem dX6_write_39 : decode cX6_write 39 = .ok (.iload_n 3, 1) := by decide +kernel
theorem dX6_write_40 : decode cX6_write 40 = .ok (.iconst 1, 1) := by decide +kernel
theorem dX6_write_41 : decode cX6_write 41 = .ok (.if_icmp .lt 9, 3) := by decide +kernel
theorem dX6_write_44 : decode cX6_write 44 = .ok (.iload_n 3, 1) := by decide +kernel
theorem dX6_write_45 : decode cX6_write 45 = .ok (.bipush 8, 2) := by decide +kernel
theorem dX6_write_47 : decode cX6_write 47 = .ok (.if_icmp .le 7, 3) := by decide +kernel
theorem dX6_write_50 : decode cX6_write 50 = .ok (.iconst 1, 1) := by decide +kernel
theorem dX6_write_51 : decode cX6_write 51 = .ok (.goto 13, 3) := by decide +kernel
theorem dX6_write_54 : decode cX6_write 54 = .ok (.iload 4, 2) := by decide +kernel
theorem dX6_write_56 : decode cX6_write 56 = .ok (.ifCond .eq 7, 3) := by decide +kernel
theorem dX6_write_59 : decode cX6_write 59 = .ok (.iconst 2, 1) := by decide +kernel
theorem dX6_write_60 : decode cX6_write 60 = .ok (.goto 4, 3) := by decide +kernel
theorem dX6_write_63 : decode cX6_write 63 = .ok (.iconst 0, 1) := by decide +kernel
theorem dX6_write_64 : decode cX6_write 64 = .ok (.putfield 45, 3) := by decide +kernel
theorem dX6_write_67 : decode cX6_write 67 = .ok (.aload_n 0, 1) := by decide +kernel
theorem dX6_write_68 : decode cX6_write 68 = .ok (.getfield 45, 3) := by decide +kernel
theorem dX6_write_71 : decode cX6_write 71 = .ok (.ifCond .le 5, 3) := by decide +kernel
theorem dX6_write_74 : decode cX6_write 74 = .ok (.iconst 0, 1) := by decide +kernel
theorem dX6_write_75 : decode cX6_write 75 = .ok (.ireturn, 1) := by decide +kernel
theorem dX6_write_76 : decode cX6_write 76 = .ok (.iconst 0, 1) := by decide +kernel
theorem dX6_write_77 : decode cX6_write 77 = .ok (.istore 5, 2) := by decide +kernel
theorem dX6_write_79 : decode cX6_write 79 = .ok (.iload_n 3, 1) := by decide +kernel
theorem dX6_write_80 : decode cX6_write 80 = .ok (.iconst 1, 1) := by decide +kernel
theorem dX6_write_81 : decode cX6_write 81 = .ok (.isub, 1) := by decide +kernel
theorem dX6_write_82 : decode cX6_write 82 = .ok (.istore 6, 2) := by decide +kernel
theorem dX6_write_84 : decode cX6_write 84 = .ok (.iload 6, 2) := by decide +kernel
theorem dX6_write_86 : decode cX6_write 86 = .ok (.ifCond .lt 53, 3) := by decide +kernel
theorem dX6_write_89 : decode cX6_write 89 = .ok (.aload_n 0, 1) := by decide +kernel
theorem dX6_write_90 : decode cX6_write 90 = .ok (.getfield 60, 3) := by decide +kernel
theorem dX6_write_93 : decode cX6_write 93 = .ok (.sipush 2048, 3) := by decide +kernel
theorem dX6_write_96 : decode cX6_write 96 = .ok (.if_icmp .ge 43, 3) := by decide +kernel
theorem dX6_write_99 : decode cX6_write 99 = .ok (.aload_n 0, 1) := by decide +kernel
theorem dX6_write_100 : decode cX6_write 100 = .ok (.getfield 7, 3) := by decide +kernel
theorem dX6_write_103 : decode cX6_write 103 = .ok (.aload_n 0, 1) := by decide +kernel
theorem dX6_write_104 : decode cX6_write 104 = .ok (.getfield 60, 3) := by decide +kernel
theorem dX6_write_107 : decode cX6_write 107 = .ok (.lload_n 1, 1) := by decide +kernel
theorem dX6_write_108 : decode cX6_write 108 = .ok (.bipush 8, 2) := by decide +kernel
theorem dX6_write_110 : decode cX6_write 110 = .ok (.iload 6, 2) := by decide +kernel
theorem dX6_write_112 : decode cX6_write 112 = .ok (.imul, 1) := by decide +kernel
theorem dX6_write_113 : decode cX6_write 113 = .ok (.lshr, 1) := by decide +kernel
theorem dX6_write_114 : decode cX6_write 114 = .ok (.ldc2_w 134, 3) := by decide +kernel
theorem dX6_write_117 : decode cX6_write 117 = .ok (.land, 1) := by decide +kernel
theorem dX6_write_118 : decode cX6_write 118 = .ok (.l2i, 1) := by decide +kernel
theorem dX6_write_119 : decode cX6_write 119 = .ok (.iastore, 1) := by decide +kernel
theorem dX6_write_120 : decode cX6_write 120 = .ok (.aload_n 0, 1) := by decide +kernel
theorem dX6_write_121 : decode cX6_write 121 = .ok (.dup, 1) := by decide +kernel
theorem dX6_write_122 : decode cX6_write 122 = .ok (.getfield 60, 3) := by decide +kernel
theorem dX6_write_125 : decode cX6_write 125 = .ok (.iconst 1, 1) := by decide +kernel
theorem dX6_write_126 : decode cX6_write 126 = .ok (.iadd, 1) := by decide +kernel
theorem dX6_write_127 : decode cX6_write 127 = .ok (.putfield 60, 3) := by decide +kernel
theorem dX6_write_130 : decode cX6_write 130 = .ok (.iinc 5 1, 3) := by decide +kernel
theorem dX6_write_133 : decode cX6_write 133 = .ok (.iinc 6 (-1), 3) := by decide +kernel
theorem dX6_write_136 : decode cX6_write 136 = .ok (.goto (-52), 3) := by decide +kernel
theorem dX6_write_139 : decode cX6_write 139 = .ok (.aload_n 0, 1) := by decide +kernel
theorem dX6_write_140 : decode cX6_write 140 = .ok (.invokevirtual 136, 3) := by decide +kernel
theorem dX6_write_143 : decode cX6_write 143 = .ok (.iload 5, 2) := by decide +kernel
theorem dX6_write_145 : decode cX6_write 145 = .ok (.ireturn, 1) := by decide +kernel
theorem dX6_room_0 : decode cX6_room 0 = .ok (.sipush 2048, 3) := by decide +kernel
theorem dX6_room_3 : decode cX6_room 3 = .ok (.aload_n 0, 1) := by decide +kernel
theorem dX6_room_4 : decode cX6_room 4 = .ok (.getfield 66, 3) := by decide +kernel
theorem dX6_room_7 : decode cX6_room 7 = .ok (.isub, 1) := by decide +kernel
theorem dX6_room_8 : decode cX6_room 8 = .ok (.ireturn, 1) := by decide +kernel
theorem dX6_isShort_0 : decode cX6_isShort 0 = .ok (.aload_n 0, 1) := by decide +kernel
theorem dX6_isShort_1 : decode cX6_isShort 1 = .ok (.invokevirtual 139, 3) := by decide +kernel
theorem dX6_isShort_4 : decode cX6_isShort 4 = .ok (.aload_n 0, 1) := by decide +kernel
theorem dX6_isShort_5 : decode cX6_isShort 5 = .ok (.getfield 42, 3) := by decide +kernel
theorem dX6_isShort_8 : decode cX6_isShort 8 = .ok (.sipush 1024, 3) := by decide +kernel
theorem dX6_isShort_11 : decode cX6_isShort 11 = .ok (.if_icmp .ge 10, 3) := by decide +kernel
theorem dX6_isShort_14 : decode cX6_isShort 14 = .ok (.aload_n 0, 1) := by decide +kernel
theorem dX6_isShort_15 : decode cX6_isShort 15 = .ok (.getfield 42, 3) := by decide +kernel
theorem dX6_isShort_18 : decode cX6_isShort 18 = .ok (.goto 6, 3) := by decide +kernel
theorem dX6_isShort_21 : decode cX6_isShort 21 = .ok (.sipush 1024, 3) := by decide +kernel
theorem dX6_isShort_24 : decode cX6_isShort 24 = .ok (.if_icmp .ge 7, 3) := by decide +kernel
theorem dX6_isShort_27 : decode cX6_isShort 27 = .ok (.iconst 1, 1) := by decide +kernel
theorem dX6_isShort_28 : decode cX6_isShort 28 = .ok (.goto 4, 3) := by decide +kernel
theorem dX6_isShort_31 : decode cX6_isShort 31 = .ok (.iconst 0, 1) := by decide +kernel
theorem dX6_isShort_32 : decode cX6_isShort 32 = .ok (.ireturn, 1) := by decide +kernel
theorem dX6_read_0 : decode cX6_read 0 = .ok (.aload_n 0, 1) := by decide +kernel
theorem dX6_read_1 : decode cX6_read 1 = .ok (.iconst 0, 1) := by decide +kernel
theorem dX6_read_2 : decode cX6_read 2 = .ok (.putfield 45, 3) := by decide +kernel
theorem dX6_read_5 : decode cX6_read 5 = .ok (.aload_n 0, 1) := by decide +kernel
theorem dX6_read_6 : decode cX6_read 6 = .ok (.getfield 66, 3) := by decide +kernel
theorem dX6_read_9 : decode cX6_read 9 = .ok (.ifCond .ne 78, 3) := by decide +kernel
theorem dX6_read_12 : decode cX6_read 12 = .ok (.aload_n 0, 1) := by decide +kernel
theorem dX6_read_13 : decode cX6_read 13 = .ok (.getfield 118, 3) := by decide +kernel
theorem dX6_read_16 : decode cX6_read 16 = .ok (.ifCond .eq 20, 3) := by decide +kernel
theorem dX6_read_19 : decode cX6_read 19 = .ok (.aload_n 0, 1) := by decide +kernel
theorem dX6_read_20 : decode cX6_read 20 = .ok (.getfield 118, 3) := by decide +kernel
theorem dX6_read_23 : decode cX6_read 23 = .ok (.iconst 1, 1) := by decide +kernel
theorem dX6_read_24 : decode cX6_read 24 = .ok (.if_icmp .eq 12, 3) := by decide +kernel
theorem dX6_read_27 : decode cX6_read 27 = .ok (.aload_n 0, 1) := by decide +kernel
theorem dX6_read_28 : decode cX6_read 28 = .ok (.getfield 118, 3) := by decide +kernel
theorem dX6_read_31 : decode cX6_read 31 = .ok (.bipush 11, 2) := by decide +kernel
theorem dX6_read_33 : decode cX6_read 33 = .ok (.if_icmp .ne 7, 3) := by decide +kernel
theorem dX6_read_36 : decode cX6_read 36 = .ok (.iconst 1, 1) := by decide +kernel
theorem dX6_read_37 : decode cX6_read 37 = .ok (.goto 4, 3) := by decide +kernel
theorem dX6_read_40 : decode cX6_read 40 = .ok (.iconst 0, 1) := by decide +kernel
theorem dX6_read_41 : decode cX6_read 41 = .ok (.istore_n 1, 1) := by decide +kernel
theorem dX6_read_42 : decode cX6_read 42 = .ok (.aload_n 0, 1) := by decide +kernel
theorem dX6_read_43 : decode cX6_read 43 = .ok (.iload_n 1, 1) := by decide +kernel
theorem dX6_read_44 : decode cX6_read 44 = .ok (.ifCond .eq 14, 3) := by decide +kernel
theorem dX6_read_47 : decode cX6_read 47 = .ok (.aload_n 0, 1) := by decide +kernel
theorem dX6_read_48 : decode cX6_read 48 = .ok (.getfield 79, 3) := by decide +kernel
theorem dX6_read_51 : decode cX6_read 51 = .ok (.ifCond .ne 7, 3) := by decide +kernel
theorem dX6_read_54 : decode cX6_read 54 = .ok (.iconst 1, 1) := by decide +kernel
theorem dX6_read_55 : decode cX6_read 55 = .ok (.goto 4, 3) := by decide +kernel
theorem dX6_read_58 : decode cX6_read 58 = .ok (.iconst 0, 1) := by decide +kernel
theorem dX6_read_59 : decode cX6_read 59 = .ok (.putfield 45, 3) := by decide +kernel
theorem dX6_read_62 : decode cX6_read 62 = .ok (.aload_n 0, 1) := by decide +kernel
theorem dX6_read_63 : decode cX6_read 63 = .ok (.getfield 45, 3) := by decide +kernel
theorem dX6_read_66 : decode cX6_read 66 = .ok (.ifCond .le 7, 3) := by decide +kernel
theorem dX6_read_69 : decode cX6_read 69 = .ok (.iconst 0, 1) := by decide +kernel
theorem dX6_read_70 : decode cX6_read 70 = .ok (.goto 16, 3) := by decide +kernel
theorem dX6_read_73 : decode cX6_read 73 = .ok (.aload_n 0, 1) := by decide +kernel
theorem dX6_read_74 : decode cX6_read 74 = .ok (.getfield 79, 3) := by decide +kernel
theorem dX6_read_77 : decode cX6_read 77 = .ok (.ifCond .eq 8, 3) := by decide +kernel
theorem dX6_read_80 : decode cX6_read 80 = .ok (.bipush (-2), 2) := by decide +kernel
theorem dX6_read_82 : decode cX6_read 82 = .ok (.goto 4, 3) := by decide +kernel
theorem dX6_read_85 : decode cX6_read 85 = .ok (.iconst (-1), 1) := by decide +kernel
theorem dX6_read_86 : decode cX6_read 86 = .ok (.ireturn, 1) := by decide +kernel
theorem dX6_read_87 : decode cX6_read 87 = .ok (.aload_n 0, 1) := by decide +kernel
theorem dX6_read_88 : decode cX6_read 88 = .ok (.getfield 13, 3) := by decide +kernel
theorem dX6_read_91 : decode cX6_read 91 = .ok (.iconst 0, 1) := by decide +kernel
theorem dX6_read_92 : decode cX6_read 92 = .ok (.iaload, 1) := by decide +kernel
theorem dX6_read_93 : decode cX6_read 93 = .ok (.istore_n 1, 1) := by decide +kernel
theorem dX6_read_94 : decode cX6_read 94 = .ok (.aload_n 0, 1) := by decide +kernel
theorem dX6_read_95 : decode cX6_read 95 = .ok (.invokevirtual 143, 3) := by decide +kernel
theorem dX6_read_98 : decode cX6_read 98 = .ok (.istore_n 2, 1) := by decide +kernel
theorem dX6_read_99 : decode cX6_read 99 = .ok (.iconst 0, 1) := by decide +kernel
theorem dX6_read_100 : decode cX6_read 100 = .ok (.istore_n 3, 1) := by decide +kernel
theorem dX6_read_101 : decode cX6_read 101 = .ok (.iload_n 3, 1) := by decide +kernel
theorem dX6_read_102 : decode cX6_read 102 = .ok (.iconst 1, 1) := by decide +kernel
theorem dX6_read_103 : decode cX6_read 103 = .ok (.iadd, 1) := by decide +kernel
theorem dX6_read_104 : decode cX6_read 104 = .ok (.sipush 2048, 3) := by decide +kernel
theorem dX6_read_107 : decode cX6_read 107 = .ok (.if_icmp .ge 37, 3) := by decide +kernel
theorem dX6_read_110 : decode cX6_read 110 = .ok (.aload_n 0, 1) := by decide +kernel
theorem dX6_read_111 : decode cX6_read 111 = .ok (.getfield 13, 3) := by decide +kernel
theorem dX6_read_114 : decode cX6_read 114 = .ok (.iload_n 3, 1) := by decide +kernel
theorem dX6_read_115 : decode cX6_read 115 = .ok (.aload_n 0, 1) := by decide +kernel
theorem dX6_read_116 : decode cX6_read 116 = .ok (.getfield 13, 3) := by decide +kernel
theorem dX6_read_119 : decode cX6_read 119 = .ok (.iload_n 3, 1) := by decide +kernel
theorem dX6_read_120 : decode cX6_read 120 = .ok (.iconst 1, 1) := by decide +kernel
theorem dX6_read_121 : decode cX6_read 121 = .ok (.iadd, 1) := by decide +kernel
theorem dX6_read_122 : decode cX6_read 122 = .ok (.iaload, 1) := by decide +kernel
theorem dX6_read_123 : decode cX6_read 123 = .ok (.iastore, 1) := by decide +kernel
theorem dX6_read_124 : decode cX6_read 124 = .ok (.aload_n 0, 1) := by decide +kernel
theorem dX6_read_125 : decode cX6_read 125 = .ok (.getfield 16, 3) := by decide +kernel
theorem dX6_read_128 : decode cX6_read 128 = .ok (.iload_n 3, 1) := by decide +kernel
theorem dX6_read_129 : decode cX6_read 129 = .ok (.aload_n 0, 1) := by decide +kernel
theorem dX6_read_130 : decode cX6_read 130 = .ok (.getfield 16, 3) := by decide +kernel
theorem dX6_read_133 : decode cX6_read 133 = .ok (.iload_n 3, 1) := by decide +kernel
theorem dX6_read_134 : decode cX6_read 134 = .ok (.iconst 1, 1) := by decide +kernel
theorem dX6_read_135 : decode cX6_read 135 = .ok (.iadd, 1) := by decide +kernel
theorem dX6_read_136 : decode cX6_read 136 = .ok (.baload, 1) := by decide +kernel
theorem dX6_read_137 : decode cX6_read 137 = .ok (.bastore, 1) := by decide +kernel
theorem dX6_read_138 : decode cX6_read 138 = .ok (.iinc 3 1, 3) := by decide +kernel
theorem dX6_read_141 : decode cX6_read 141 = .ok (.goto (-40), 3) := by decide +kernel
theorem dX6_read_144 : decode cX6_read 144 = .ok (.aload_n 0, 1) := by decide +kernel
theorem dX6_read_145 : decode cX6_read 145 = .ok (.getfield 16, 3) := by decide +kernel
theorem dX6_read_148 : decode cX6_read 148 = .ok (.sipush 2047, 3) := by decide +kernel
theorem dX6_read_151 : decode cX6_read 151 = .ok (.iconst 0, 1) := by decide +kernel
theorem dX6_read_152 : decode cX6_read 152 = .ok (.bastore, 1) := by decide +kernel
theorem dX6_read_153 : decode cX6_read 153 = .ok (.aload_n 0, 1) := by decide +kernel
theorem dX6_read_154 : decode cX6_read 154 = .ok (.dup, 1) := by decide +kernel
theorem dX6_read_155 : decode cX6_read 155 = .ok (.getfield 66, 3) := by decide +kernel
theorem dX6_read_158 : decode cX6_read 158 = .ok (.iconst 1, 1) := by decide +kernel
theorem dX6_read_159 : decode cX6_read 159 = .ok (.isub, 1) := by decide +kernel
theorem dX6_read_160 : decode cX6_read 160 = .ok (.putfield 66, 3) := by decide +kernel
theorem dX6_read_163 : decode cX6_read 163 = .ok (.aload_n 0, 1) := by decide +kernel
theorem dX6_read_164 : decode cX6_read 164 = .ok (.aload_n 0, 1) := by decide +kernel
theorem dX6_read_165 : decode cX6_read 165 = .ok (.getfield 112, 3) := by decide +kernel
theorem dX6_read_168 : decode cX6_read 168 = .ok (.ifCond .ne 31, 3) := by decide +kernel
theorem dX6_read_171 : decode cX6_read 171 = .ok (.iload_n 2, 1) := by decide +kernel
theorem dX6_read_172 : decode cX6_read 172 = .ok (.ifCond .eq 31, 3) := by decide +kernel
theorem dX6_read_175 : decode cX6_read 175 = .ok (.aload_n 0, 1) := by decide +kernel
theorem dX6_read_176 : decode cX6_read 176 = .ok (.invokevirtual 143, 3) := by decide +kernel
theorem dX6_read_179 : decode cX6_read 179 = .ok (.ifCond .ne 24, 3) := by decide +kernel
theorem dX6_read_182 : decode cX6_read 182 = .ok (.aload_n 0, 1) := by decide +kernel
theorem dX6_read_183 : decode cX6_read 183 = .ok (.getfield 118, 3) := by decide +kernel
theorem dX6_read_186 : decode cX6_read 186 = .ok (.iconst 4, 1) := by decide +kernel
theorem dX6_read_187 : decode cX6_read 187 = .ok (.if_icmp .lt 16, 3) := by decide +kernel
theorem dX6_read_190 : decode cX6_read 190 = .ok (.aload_n 0, 1) := by decide +kernel
theorem dX6_read_191 : decode cX6_read 191 = .ok (.getfield 118, 3) := by decide +kernel
theorem dX6_read_194 : decode cX6_read 194 = .ok (.bipush 6, 2) := by decide +kernel
theorem dX6_read_196 : decode cX6_read 196 = .ok (.if_icmp .gt 7, 3) := by decide +kernel
theorem dX6_read_199 : decode cX6_read 199 = .ok (.iconst 1, 1) := by decide +kernel
theorem dX6_read_200 : decode cX6_read 200 = .ok (.goto 4, 3) := by decide +kernel
theorem dX6_read_203 : decode cX6_read 203 = .ok (.iconst 0, 1) := by decide +kernel
theorem dX6_read_204 : decode cX6_read 204 = .ok (.putfield 112, 3) := by decide +kernel
theorem dX6_read_207 : decode cX6_read 207 = .ok (.iload_n 1, 1) := by decide +kernel
theorem dX6_read_208 : decode cX6_read 208 = .ok (.ireturn, 1) := by decide +kernel
theorem dX6_becomes_0 : decode cX6_becomes 0 = .ok (.aload_n 0, 1) := by decide +kernel
theorem dX6_becomes_1 : decode cX6_becomes 1 = .ok (.iload_n 1, 1) := by decide +kernel
theorem dX6_becomes_2 : decode cX6_becomes 2 = .ok (.putfield 118, 3) := by decide +kernel
theorem dX6_becomes_5 : decode cX6_becomes 5 = .ok (.aload_n 0, 1) := by decide +kernel
theorem dX6_becomes_6 : decode cX6_becomes 6 = .ok (.getfield 112, 3) := by decide +kernel
theorem dX6_becomes_9 : decode cX6_becomes 9 = .ok (.ifCond .eq 13, 3) := by decide +kernel
theorem dX6_becomes_12 : decode cX6_becomes 12 = .ok (.iload_n 1, 1) := by decide +kernel
theorem dX6_becomes_13 : decode cX6_becomes 13 = .ok (.bipush 10, 2) := by decide +kernel
theorem dX6_becomes_15 : decode cX6_becomes 15 = .ok (.if_icmp .ne 7, 3) := by decide +kernel
theorem dX6_becomes_18 : decode cX6_becomes 18 = .ok (.iconst 1, 1) := by decide +kernel
theorem dX6_becomes_19 : decode cX6_becomes 19 = .ok (.goto 4, 3) := by decide +kernel
theorem dX6_becomes_22 : decode cX6_becomes 22 = .ok (.iconst 0, 1) := by decide +kernel
theorem dX6_becomes_23 : decode cX6_becomes 23 = .ok (.istore_n 2, 1) := by decide +kernel
theorem dX6_becomes_24 : decode cX6_becomes 24 = .ok (.iload_n 1, 1) := by decide +kernel
theorem dX6_becomes_25 : decode cX6_becomes 25 = .ok (.ifCond .eq 15, 3) := by decide +kernel
theorem dX6_becomes_28 : decode cX6_becomes 28 = .ok (.iload_n 1, 1) := by decide +kernel
theorem dX6_becomes_29 : decode cX6_becomes 29 = .ok (.bipush 11, 2) := by decide +kernel
theorem dX6_becomes_31 : decode cX6_becomes 31 = .ok (.if_icmp .eq 9, 3) := by decide +kernel
theorem dX6_becomes_34 : decode cX6_becomes 34 = .ok (.iload_n 1, 1) := by decide +kernel
theorem dX6_becomes_35 : decode cX6_becomes 35 = .ok (.bipush 10, 2) := by decide +kernel
theorem dX6_becomes_37 : decode cX6_becomes 37 = .ok (.if_icmp .ne 12, 3) := by decide +kernel
theorem dX6_becomes_40 : decode cX6_becomes 40 = .ok (.aload_n 0, 1) := by decide +kernel
theorem dX6_becomes_41 : decode cX6_becomes 41 = .ok (.invokevirtual 85, 3) := by decide +kernel
theorem dX6_becomes_44 : decode cX6_becomes 44 = .ok (.aload_n 0, 1) := by decide +kernel
theorem dX6_becomes_45 : decode cX6_becomes 45 = .ok (.iload_n 2, 1) := by decide +kernel
theorem dX6_becomes_46 : decode cX6_becomes 46 = .ok (.putfield 112, 3) := by decide +kernel
theorem dX6_becomes_49 : decode cX6_becomes 49 = .ok (.iload_n 1, 1) := by decide +kernel
theorem dX6_becomes_50 : decode cX6_becomes 50 = .ok (.bipush 10, 2) := by decide +kernel
theorem dX6_becomes_52 : decode cX6_becomes 52 = .ok (.if_icmp .ne 16, 3) := by decide +kernel
theorem dX6_becomes_55 : decode cX6_becomes 55 = .ok (.aload_n 0, 1) := by decide +kernel
theorem dX6_becomes_56 : decode cX6_becomes 56 = .ok (.aload_n 0, 1) := by decide +kernel
theorem dX6_becomes_57 : decode cX6_becomes 57 = .ok (.getfield 121, 3) := by decide +kernel
theorem dX6_becomes_60 : decode cX6_becomes 60 = .ok (.aload_n 0, 1) := by decide +kernel
theorem dX6_becomes_61 : decode cX6_becomes 61 = .ok (.getfield 39, 3) := by decide +kernel
theorem dX6_becomes_64 : decode cX6_becomes 64 = .ok (.iadd, 1) := by decide +kernel
theorem dX6_becomes_65 : decode cX6_becomes 65 = .ok (.putfield 124, 3) := by decide +kernel
theorem dX6_becomes_68 : decode cX6_becomes 68 = .ok (.return_, 1) := by decide +kernel
theorem dX6_close_0 : decode cX6_close 0 = .ok (.aload_n 0, 1) := by decide +kernel
theorem dX6_close_1 : decode cX6_close 1 = .ok (.aload_n 0, 1) := by decide +kernel
theorem dX6_close_2 : decode cX6_close 2 = .ok (.getfield 82, 3) := by decide +kernel
theorem dX6_close_5 : decode cX6_close 5 = .ok (.ifCond .ne 19, 3) := by decide +kernel
theorem dX6_close_8 : decode cX6_close 8 = .ok (.aload_n 0, 1) := by decide +kernel
theorem dX6_close_9 : decode cX6_close 9 = .ok (.getfield 118, 3) := by decide +kernel
theorem dX6_close_12 : decode cX6_close 12 = .ok (.ifCond .eq 12, 3) := by decide +kernel
theorem dX6_close_15 : decode cX6_close 15 = .ok (.aload_n 0, 1) := by decide +kernel
theorem dX6_close_16 : decode cX6_close 16 = .ok (.getfield 118, 3) := by decide +kernel
theorem dX6_close_19 : decode cX6_close 19 = .ok (.bipush 11, 2) := by decide +kernel
theorem dX6_close_21 : decode cX6_close 21 = .ok (.if_icmp .ne 7, 3) := by decide +kernel
theorem dX6_close_24 : decode cX6_close 24 = .ok (.iconst 1, 1) := by decide +kernel
theorem dX6_close_25 : decode cX6_close 25 = .ok (.goto 4, 3) := by decide +kernel
theorem dX6_close_28 : decode cX6_close 28 = .ok (.iconst 0, 1) := by decide +kernel
theorem dX6_close_29 : decode cX6_close 29 = .ok (.putfield 45, 3) := by decide +kernel
theorem dX6_close_32 : decode cX6_close 32 = .ok (.aload_n 0, 1) := by decide +kernel
theorem dX6_close_33 : decode cX6_close 33 = .ok (.getfield 45, 3) := by decide +kernel
theorem dX6_close_36 : decode cX6_close 36 = .ok (.ifCond .le 4, 3) := by decide +kernel
theorem dX6_close_39 : decode cX6_close 39 = .ok (.return_, 1) := by decide +kernel
theorem dX6_close_40 : decode cX6_close 40 = .ok (.aload_n 0, 1) := by decide +kernel
theorem dX6_close_41 : decode cX6_close 41 = .ok (.iconst 1, 1) := by decide +kernel
theorem dX6_close_42 : decode cX6_close 42 = .ok (.putfield 82, 3) := by decide +kernel
theorem dX6_close_45 : decode cX6_close 45 = .ok (.aload_n 0, 1) := by decide +kernel
theorem dX6_close_46 : decode cX6_close 46 = .ok (.getfield 118, 3) := by decide +kernel
theorem dX6_close_49 : decode cX6_close 49 = .ok (.iconst 1, 1) := by decide +kernel
theorem dX6_close_50 : decode cX6_close 50 = .ok (.if_icmp .eq 11, 3) := by decide +kernel
theorem dX6_close_53 : decode cX6_close 53 = .ok (.aload_n 0, 1) := by decide +kernel
theorem dX6_close_54 : decode cX6_close 54 = .ok (.getfield 118, 3) := by decide +kernel
theorem dX6_close_57 : decode cX6_close 57 = .ok (.iconst 2, 1) := by decide +kernel
theorem dX6_close_58 : decode cX6_close 58 = .ok (.if_icmp .ne 11, 3) := by decide +kernel
theorem dX6_close_61 : decode cX6_close 61 = .ok (.aload_n 0, 1) := by decide +kernel
theorem dX6_close_62 : decode cX6_close 62 = .ok (.iconst 0, 1) := by decide +kernel
theorem dX6_close_63 : decode cX6_close 63 = .ok (.invokevirtual 147, 3) := by decide +kernel
