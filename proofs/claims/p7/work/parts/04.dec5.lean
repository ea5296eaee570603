/-! written by program (wip/gen) -/
theorem dX5_takeMisfit_20 : decode cX5_takeMisfit 20 = .ok (.getfield 60, 3) := by decide +kernel
theorem dX5_takeMisfit_23 : decode cX5_takeMisfit 23 = .ok (.bipush 10, 2) := by decide +kernel
theorem dX5_takeMisfit_25 : decode cX5_takeMisfit 25 = .ok (.if_icmp .ne 18, 3) := by decide +kernel
theorem dX5_takeMisfit_28 : decode cX5_takeMisfit 28 = .ok (.aload_n 0, 1) := by decide +kernel
theorem dX5_takeMisfit_29 : decode cX5_takeMisfit 29 = .ok (.getfield 49, 3) := by decide +kernel
theorem dX5_takeMisfit_32 : decode cX5_takeMisfit 32 = .ok (.iconst 2, 1) := by decide +kernel
theorem dX5_takeMisfit_33 : decode cX5_takeMisfit 33 = .ok (.invokevirtual 338, 3) := by decide +kernel
theorem dX5_takeMisfit_36 : decode cX5_takeMisfit 36 = .ok (.ifCond .eq 7, 3) := by decide +kernel
theorem dX5_takeMisfit_39 : decode cX5_takeMisfit 39 = .ok (.aload_n 0, 1) := by decide +kernel
theorem dX5_takeMisfit_40 : decode cX5_takeMisfit 40 = .ok (.invokevirtual 302, 3) := by decide +kernel
theorem dX5_takeMisfit_43 : decode cX5_takeMisfit 43 = .ok (.return_, 1) := by decide +kernel
theorem dX1_open_0 : decode cX1_open 0 = .ok (.aload_n 0, 1) := by decide +kernel
theorem dX1_open_1 : decode cX1_open 1 = .ok (.iconst 1, 1) := by decide +kernel
theorem dX1_open_2 : decode cX1_open 2 = .ok (.putfield 21, 3) := by decide +kernel
theorem dX1_open_5 : decode cX1_open 5 = .ok (.aload_n 0, 1) := by decide +kernel
theorem dX1_open_6 : decode cX1_open 6 = .ok (.iload_n 1, 1) := by decide +kernel
theorem dX1_open_7 : decode cX1_open 7 = .ok (.putfield 25, 3) := by decide +kernel
theorem dX1_open_10 : decode cX1_open 10 = .ok (.aload_n 0, 1) := by decide +kernel
theorem dX1_open_11 : decode cX1_open 11 = .ok (.iload_n 1, 1) := by decide +kernel
theorem dX1_open_12 : decode cX1_open 12 = .ok (.putfield 32, 3) := by decide +kernel
theorem dX1_open_15 : decode cX1_open 15 = .ok (.return_, 1) := by decide +kernel
theorem dX5_takeOpen_0 : decode cX5_takeOpen 0 = .ok (.aload_n 0, 1) := by decide +kernel
theorem dX5_takeOpen_1 : decode cX5_takeOpen 1 = .ok (.getfield 28, 3) := by decide +kernel
theorem dX5_takeOpen_4 : decode cX5_takeOpen 4 = .ok (.aload_n 0, 1) := by decide +kernel
theorem dX5_takeOpen_5 : decode cX5_takeOpen 5 = .ok (.getfield 49, 3) := by decide +kernel
theorem dX5_takeOpen_8 : decode cX5_takeOpen 8 = .ok (.getfield 220, 3) := by decide +kernel
theorem dX5_takeOpen_11 : decode cX5_takeOpen 11 = .ok (.iconst 1, 1) := by decide +kernel
theorem dX5_takeOpen_12 : decode cX5_takeOpen 12 = .ok (.iadd, 1) := by decide +kernel
theorem dX5_takeOpen_13 : decode cX5_takeOpen 13 = .ok (.invokevirtual 403, 3) := by decide +kernel
theorem dX5_takeOpen_16 : decode cX5_takeOpen 16 = .ok (.aload_n 0, 1) := by decide +kernel
theorem dX5_takeOpen_17 : decode cX5_takeOpen 17 = .ok (.getfield 49, 3) := by decide +kernel
theorem dX5_takeOpen_20 : decode cX5_takeOpen 20 = .ok (.getfield 229, 3) := by decide +kernel
theorem dX5_takeOpen_23 : decode cX5_takeOpen 23 = .ok (.ifCond .ne 9, 3) := by decide +kernel
theorem dX5_takeOpen_26 : decode cX5_takeOpen 26 = .ok (.sipush 536, 3) := by decide +kernel
theorem dX5_takeOpen_29 : decode cX5_takeOpen 29 = .ok (.goto 10, 3) := by decide +kernel
theorem dX5_takeOpen_32 : decode cX5_takeOpen 32 = .ok (.aload_n 0, 1) := by decide +kernel
theorem dX5_takeOpen_33 : decode cX5_takeOpen 33 = .ok (.getfield 49, 3) := by decide +kernel
theorem dX5_takeOpen_36 : decode cX5_takeOpen 36 = .ok (.getfield 229, 3) := by decide +kernel
theorem dX5_takeOpen_39 : decode cX5_takeOpen 39 = .ok (.istore_n 1, 1) := by decide +kernel
theorem dX5_takeOpen_40 : decode cX5_takeOpen 40 = .ok (.aload_n 0, 1) := by decide +kernel
theorem dX5_takeOpen_41 : decode cX5_takeOpen 41 = .ok (.getfield 21, 3) := by decide +kernel
theorem dX5_takeOpen_44 : decode cX5_takeOpen 44 = .ok (.aload_n 0, 1) := by decide +kernel
theorem dX5_takeOpen_45 : decode cX5_takeOpen 45 = .ok (.getfield 9, 3) := by decide +kernel
theorem dX5_takeOpen_48 : decode cX5_takeOpen 48 = .ok (.iload_n 1, 1) := by decide +kernel
theorem dX5_takeOpen_49 : decode cX5_takeOpen 49 = .ok (.invokestatic 102, 3) := by decide +kernel
theorem dX5_takeOpen_52 : decode cX5_takeOpen 52 = .ok (.putfield 273, 3) := by decide +kernel
theorem dX5_takeOpen_55 : decode cX5_takeOpen 55 = .ok (.aload_n 0, 1) := by decide +kernel
theorem dX5_takeOpen_56 : decode cX5_takeOpen 56 = .ok (.getfield 49, 3) := by decide +kernel
theorem dX5_takeOpen_59 : decode cX5_takeOpen 59 = .ok (.bipush 8, 2) := by decide +kernel
theorem dX5_takeOpen_61 : decode cX5_takeOpen 61 = .ok (.invokevirtual 338, 3) := by decide +kernel
theorem dX5_takeOpen_64 : decode cX5_takeOpen 64 = .ok (.ifCond .eq 13, 3) := by decide +kernel
theorem dX5_takeOpen_67 : decode cX5_takeOpen 67 = .ok (.aload_n 0, 1) := by decide +kernel
theorem dX5_takeOpen_68 : decode cX5_takeOpen 68 = .ok (.getfield 49, 3) := by decide +kernel
theorem dX5_takeOpen_71 : decode cX5_takeOpen 71 = .ok (.getfield 223, 3) := by decide +kernel
theorem dX5_takeOpen_74 : decode cX5_takeOpen 74 = .ok (.goto 10, 3) := by decide +kernel
theorem dX5_takeOpen_77 : decode cX5_takeOpen 77 = .ok (.aload_n 0, 1) := by decide +kernel
theorem dX5_takeOpen_78 : decode cX5_takeOpen 78 = .ok (.getfield 21, 3) := by decide +kernel
theorem dX5_takeOpen_81 : decode cX5_takeOpen 81 = .ok (.getfield 296, 3) := by decide +kernel
theorem dX5_takeOpen_84 : decode cX5_takeOpen 84 = .ok (.istore_n 2, 1) := by decide +kernel
theorem dX5_takeOpen_85 : decode cX5_takeOpen 85 = .ok (.aload_n 0, 1) := by decide +kernel
theorem dX5_takeOpen_86 : decode cX5_takeOpen 86 = .ok (.getfield 21, 3) := by decide +kernel
theorem dX5_takeOpen_89 : decode cX5_takeOpen 89 = .ok (.aload_n 0, 1) := by decide +kernel
theorem dX5_takeOpen_90 : decode cX5_takeOpen 90 = .ok (.getfield 49, 3) := by decide +kernel
theorem dX5_takeOpen_93 : decode cX5_takeOpen 93 = .ok (.getfield 226, 3) := by decide +kernel
theorem dX5_takeOpen_96 : decode cX5_takeOpen 96 = .ok (.aload_n 0, 1) := by decide +kernel
theorem dX5_takeOpen_97 : decode cX5_takeOpen 97 = .ok (.getfield 49, 3) := by decide +kernel
theorem dX5_takeOpen_100 : decode cX5_takeOpen 100 = .ok (.getfield 220, 3) := by decide +kernel
theorem dX5_takeOpen_103 : decode cX5_takeOpen 103 = .ok (.iload_n 2, 1) := by decide +kernel
theorem dX5_takeOpen_104 : decode cX5_takeOpen 104 = .ok (.invokevirtual 405, 3) := by decide +kernel
theorem dX5_takeOpen_107 : decode cX5_takeOpen 107 = .ok (.return_, 1) := by decide +kernel
theorem dX5_takeWhenAsking_0 : decode cX5_takeWhenAsking 0 = .ok (.aload_n 0, 1) := by decide +kernel
theorem dX5_takeWhenAsking_1 : decode cX5_takeWhenAsking 1 = .ok (.getfield 49, 3) := by decide +kernel
theorem dX5_takeWhenAsking_4 : decode cX5_takeWhenAsking 4 = .ok (.bipush 8, 2) := by decide +kernel
theorem dX5_takeWhenAsking_6 : decode cX5_takeWhenAsking 6 = .ok (.invokevirtual 338, 3) := by decide +kernel
theorem dX5_takeWhenAsking_9 : decode cX5_takeWhenAsking 9 = .ok (.istore_n 1, 1) := by decide +kernel
theorem dX5_takeWhenAsking_10 : decode cX5_takeWhenAsking 10 = .ok (.iload_n 1, 1) := by decide +kernel
theorem dX5_takeWhenAsking_11 : decode cX5_takeWhenAsking 11 = .ok (.ifCond .eq 27, 3) := by decide +kernel
theorem dX5_takeWhenAsking_14 : decode cX5_takeWhenAsking 14 = .ok (.aload_n 0, 1) := by decide +kernel
theorem dX5_takeWhenAsking_15 : decode cX5_takeWhenAsking 15 = .ok (.getfield 49, 3) := by decide +kernel
theorem dX5_takeWhenAsking_18 : decode cX5_takeWhenAsking 18 = .ok (.getfield 223, 3) := by decide +kernel
theorem dX5_takeWhenAsking_21 : decode cX5_takeWhenAsking 21 = .ok (.aload_n 0, 1) := by decide +kernel
theorem dX5_takeWhenAsking_22 : decode cX5_takeWhenAsking 22 = .ok (.getfield 21, 3) := by decide +kernel
theorem dX5_takeWhenAsking_25 : decode cX5_takeWhenAsking 25 = .ok (.getfield 137, 3) := by decide +kernel
theorem dX5_takeWhenAsking_28 : decode cX5_takeWhenAsking 28 = .ok (.if_icmp .eq 10, 3) := by decide +kernel
theorem dX5_takeWhenAsking_31 : decode cX5_takeWhenAsking 31 = .ok (.aload_n 0, 1) := by decide +kernel
theorem dX5_takeWhenAsking_32 : decode cX5_takeWhenAsking 32 = .ok (.invokevirtual 372, 3) := by decide +kernel
theorem dX5_takeWhenAsking_35 : decode cX5_takeWhenAsking 35 = .ok (.goto 87, 3) := by decide +kernel
theorem dX5_takeWhenAsking_38 : decode cX5_takeWhenAsking 38 = .ok (.aload_n 0, 1) := by decide +kernel
theorem dX5_takeWhenAsking_39 : decode cX5_takeWhenAsking 39 = .ok (.getfield 49, 3) := by decide +kernel
theorem dX5_takeWhenAsking_42 : decode cX5_takeWhenAsking 42 = .ok (.iconst 4, 1) := by decide +kernel
theorem dX5_takeWhenAsking_43 : decode cX5_takeWhenAsking 43 = .ok (.invokevirtual 338, 3) := by decide +kernel
theorem dX5_takeWhenAsking_46 : decode cX5_takeWhenAsking 46 = .ok (.ifCond .eq 16, 3) := by decide +kernel
theorem dX5_takeWhenAsking_49 : decode cX5_takeWhenAsking 49 = .ok (.iload_n 1, 1) := by decide +kernel
theorem dX5_takeWhenAsking_50 : decode cX5_takeWhenAsking 50 = .ok (.ifCond .eq 72, 3) := by decide +kernel
theorem dX5_takeWhenAsking_53 : decode cX5_takeWhenAsking 53 = .ok (.aload_n 0, 1) := by decide +kernel
theorem dX5_takeWhenAsking_54 : decode cX5_takeWhenAsking 54 = .ok (.bipush 11, 2) := by decide +kernel
theorem dX5_takeWhenAsking_56 : decode cX5_takeWhenAsking 56 = .ok (.invokevirtual 132, 3) := by decide +kernel
theorem dX5_takeWhenAsking_59 : decode cX5_takeWhenAsking 59 = .ok (.goto 63, 3) := by decide +kernel
theorem dX5_takeWhenAsking_62 : decode cX5_takeWhenAsking 62 = .ok (.aload_n 0, 1) := by decide +kernel
theorem dX5_takeWhenAsking_63 : decode cX5_takeWhenAsking 63 = .ok (.getfield 49, 3) := by decide +kernel
theorem dX5_takeWhenAsking_66 : decode cX5_takeWhenAsking 66 = .ok (.iconst 1, 1) := by decide +kernel
theorem dX5_takeWhenAsking_67 : decode cX5_takeWhenAsking 67 = .ok (.invokevirtual 338, 3) := by decide +kernel
theorem dX5_takeWhenAsking_70 : decode cX5_takeWhenAsking 70 = .ok (.ifCond .eq 52, 3) := by decide +kernel
theorem dX5_takeWhenAsking_73 : decode cX5_takeWhenAsking 73 = .ok (.aload_n 0, 1) := by decide +kernel
theorem dX5_takeWhenAsking_74 : decode cX5_takeWhenAsking 74 = .ok (.invokevirtual 397, 3) := by decide +kernel
theorem dX5_takeWhenAsking_77 : decode cX5_takeWhenAsking 77 = .ok (.iload_n 1, 1) := by decide +kernel
theorem dX5_takeWhenAsking_78 : decode cX5_takeWhenAsking 78 = .ok (.ifCond .eq 31, 3) := by decide +kernel
theorem dX5_takeWhenAsking_81 : decode cX5_takeWhenAsking 81 = .ok (.aload_n 0, 1) := by decide +kernel
theorem dX5_takeWhenAsking_82 : decode cX5_takeWhenAsking 82 = .ok (.iconst 4, 1) := by decide +kernel
theorem dX5_takeWhenAsking_83 : decode cX5_takeWhenAsking 83 = .ok (.putfield 60, 3) := by decide +kernel
theorem dX5_takeWhenAsking_86 : decode cX5_takeWhenAsking 86 = .ok (.aload_n 0, 1) := by decide +kernel
theorem dX5_takeWhenAsking_87 : decode cX5_takeWhenAsking 87 = .ok (.getfield 42, 3) := by decide +kernel
theorem dX5_takeWhenAsking_90 : decode cX5_takeWhenAsking 90 = .ok (.iconst 0, 1) := by decide +kernel
theorem dX5_takeWhenAsking_91 : decode cX5_takeWhenAsking 91 = .ok (.putfield 173, 3) := by decide +kernel
theorem dX5_takeWhenAsking_94 : decode cX5_takeWhenAsking 94 = .ok (.aload_n 0, 1) := by decide +kernel
theorem dX5_takeWhenAsking_95 : decode cX5_takeWhenAsking 95 = .ok (.invokevirtual 400, 3) := by decide +kernel
theorem dX5_takeWhenAsking_98 : decode cX5_takeWhenAsking 98 = .ok (.aload_n 0, 1) := by decide +kernel
theorem dX5_takeWhenAsking_99 : decode cX5_takeWhenAsking 99 = .ok (.getfield 42, 3) := by decide +kernel
theorem dX5_takeWhenAsking_102 : decode cX5_takeWhenAsking 102 = .ok (.iconst 1, 1) := by decide +kernel
theorem dX5_takeWhenAsking_103 : decode cX5_takeWhenAsking 103 = .ok (.putfield 206, 3) := by decide +kernel
theorem dX5_takeWhenAsking_106 : decode cX5_takeWhenAsking 106 = .ok (.goto 16, 3) := by decide +kernel
theorem dX5_takeWhenAsking_109 : decode cX5_takeWhenAsking 109 = .ok (.aload_n 0, 1) := by decide +kernel
theorem dX5_takeWhenAsking_110 : decode cX5_takeWhenAsking 110 = .ok (.iconst 3, 1) := by decide +kernel
theorem dX5_takeWhenAsking_111 : decode cX5_takeWhenAsking 111 = .ok (.putfield 60, 3) := by decide +kernel
theorem dX5_takeWhenAsking_114 : decode cX5_takeWhenAsking 114 = .ok (.aload_n 0, 1) := by decide +kernel
theorem dX5_takeWhenAsking_115 : decode cX5_takeWhenAsking 115 = .ok (.getfield 42, 3) := by decide +kernel
theorem dX5_takeWhenAsking_118 : decode cX5_takeWhenAsking 118 = .ok (.iconst 1, 1) := by decide +kernel
theorem dX5_takeWhenAsking_119 : decode cX5_takeWhenAsking 119 = .ok (.putfield 173, 3) := by decide +kernel
theorem dX5_takeWhenAsking_122 : decode cX5_takeWhenAsking 122 = .ok (.return_, 1) := by decide +kernel
theorem dX5_takeWhenListening_0 : decode cX5_takeWhenListening 0 = .ok (.aload_n 0, 1) := by decide +kernel
theorem dX5_takeWhenListening_1 : decode cX5_takeWhenListening 1 = .ok (.getfield 49, 3) := by decide +kernel
theorem dX5_takeWhenListening_4 : decode cX5_takeWhenListening 4 = .ok (.iconst 4, 1) := by decide +kernel
theorem dX5_takeWhenListening_5 : decode cX5_takeWhenListening 5 = .ok (.invokevirtual 338, 3) := by decide +kernel
theorem dX5_takeWhenListening_8 : decode cX5_takeWhenListening 8 = .ok (.ifCond .eq 4, 3) := by decide +kernel
theorem dX5_takeWhenListening_11 : decode cX5_takeWhenListening 11 = .ok (.return_, 1) := by decide +kernel
theorem dX5_takeWhenListening_12 : decode cX5_takeWhenListening 12 = .ok (.aload_n 0, 1) := by decide +kernel
theorem dX5_takeWhenListening_13 : decode cX5_takeWhenListening 13 = .ok (.getfield 49, 3) := by decide +kernel
theorem dX5_takeWhenListening_16 : decode cX5_takeWhenListening 16 = .ok (.bipush 8, 2) := by decide +kernel
theorem dX5_takeWhenListening_18 : decode cX5_takeWhenListening 18 = .ok (.invokevirtual 338, 3) := by decide +kernel
theorem dX5_takeWhenListening_21 : decode cX5_takeWhenListening 21 = .ok (.ifCond .eq 10, 3) := by decide +kernel
theorem dX5_takeWhenListening_24 : decode cX5_takeWhenListening 24 = .ok (.aload_n 0, 1) := by decide +kernel
theorem dX5_takeWhenListening_25 : decode cX5_takeWhenListening 25 = .ok (.invokevirtual 372, 3) := by decide +kernel
theorem dX5_takeWhenListening_28 : decode cX5_takeWhenListening 28 = .ok (.goto 27, 3) := by decide +kernel
theorem dX5_takeWhenListening_31 : decode cX5_takeWhenListening 31 = .ok (.aload_n 0, 1) := by decide +kernel
theorem dX5_takeWhenListening_32 : decode cX5_takeWhenListening 32 = .ok (.getfield 49, 3) := by decide +kernel
theorem dX5_takeWhenListening_35 : decode cX5_takeWhenListening 35 = .ok (.iconst 1, 1) := by decide +kernel
theorem dX5_takeWhenListening_36 : decode cX5_takeWhenListening 36 = .ok (.invokevirtual 338, 3) := by decide +kernel
theorem dX5_takeWhenListening_39 : decode cX5_takeWhenListening 39 = .ok (.ifCond .eq 16, 3) := by decide +kernel
theorem dX5_takeWhenListening_42 : decode cX5_takeWhenListening 42 = .ok (.aload_n 0, 1) := by decide +kernel
theorem dX5_takeWhenListening_43 : decode cX5_takeWhenListening 43 = .ok (.invokevirtual 397, 3) := by decide +kernel
theorem dX5_takeWhenListening_46 : decode cX5_takeWhenListening 46 = .ok (.aload_n 0, 1) := by decide +kernel
theorem dX5_takeWhenListening_47 : decode cX5_takeWhenListening 47 = .ok (.iconst 3, 1) := by decide +kernel
theorem dX5_takeWhenListening_48 : decode cX5_takeWhenListening 48 = .ok (.putfield 60, 3) := by decide +kernel
theorem dX5_takeWhenListening_51 : decode cX5_takeWhenListening 51 = .ok (.aload_n 0, 1) := by decide +kernel
theorem dX5_takeWhenListening_52 : decode cX5_takeWhenListening 52 = .ok (.invokevirtual 293, 3) := by decide +kernel
theorem dX5_takeWhenListening_55 : decode cX5_takeWhenListening 55 = .ok (.return_, 1) := by decide +kernel
theorem dX5_takeSegment_0 : decode cX5_takeSegment 0 = .ok (.aload_n 0, 1) := by decide +kernel
theorem dX5_takeSegment_1 : decode cX5_takeSegment 1 = .ok (.invokevirtual 69, 3) := by decide +kernel
theorem dX5_takeSegment_4 : decode cX5_takeSegment 4 = .ok (.ifCond .eq 10, 3) := by decide +kernel
theorem dX5_takeSegment_7 : decode cX5_takeSegment 7 = .ok (.aload_n 0, 1) := by decide +kernel
theorem dX5_takeSegment_8 : decode cX5_takeSegment 8 = .ok (.invokevirtual 372, 3) := by decide +kernel
theorem dX5_takeSegment_11 : decode cX5_takeSegment 11 = .ok (.goto 120, 3) := by decide +kernel
theorem dX5_takeSegment_14 : decode cX5_takeSegment 14 = .ok (.aload_n 0, 1) := by decide +kernel
theorem dX5_takeSegment_15 : decode cX5_takeSegment 15 = .ok (.getfield 60, 3) := by decide +kernel
theorem dX5_takeSegment_18 : decode cX5_takeSegment 18 = .ok (.iconst 1, 1) := by decide +kernel
theorem dX5_takeSegment_19 : decode cX5_takeSegment 19 = .ok (.if_icmp .ne 10, 3) := by decide +kernel
theorem dX5_takeSegment_22 : decode cX5_takeSegment 22 = .ok (.aload_n 0, 1) := by decide +kernel
theorem dX5_takeSegment_23 : decode cX5_takeSegment 23 = .ok (.invokevirtual 375, 3) := by decide +kernel
theorem dX5_takeSegment_26 : decode cX5_takeSegment 26 = .ok (.goto 105, 3) := by decide +kernel
theorem dX5_takeSegment_29 : decode cX5_takeSegment 29 = .ok (.aload_n 0, 1) := by decide +kernel
theorem dX5_takeSegment_30 : decode cX5_takeSegment 30 = .ok (.getfield 60, 3) := by decide +kernel
theorem dX5_takeSegment_33 : decode cX5_takeSegment 33 = .ok (.iconst 2, 1) := by decide +kernel
theorem dX5_takeSegment_34 : decode cX5_takeSegment 34 = .ok (.if_icmp .ne 10, 3) := by decide +kernel
theorem dX5_takeSegment_37 : decode cX5_takeSegment 37 = .ok (.aload_n 0, 1) := by decide +kernel
theorem dX5_takeSegment_38 : decode cX5_takeSegment 38 = .ok (.invokevirtual 378, 3) := by decide +kernel
theorem dX5_takeSegment_41 : decode cX5_takeSegment 41 = .ok (.goto 90, 3) := by decide +kernel
theorem dX5_takeSegment_44 : decode cX5_takeSegment 44 = .ok (.aload_n 0, 1) := by decide +kernel
theorem dX5_takeSegment_45 : decode cX5_takeSegment 45 = .ok (.getfield 28, 3) := by decide +kernel
theorem dX5_takeSegment_48 : decode cX5_takeSegment 48 = .ok (.aload_n 0, 1) := by decide +kernel
theorem dX5_takeSegment_49 : decode cX5_takeSegment 49 = .ok (.getfield 49, 3) := by decide +kernel
theorem dX5_takeSegment_52 : decode cX5_takeSegment 52 = .ok (.getfield 220, 3) := by decide +kernel
theorem dX5_takeSegment_55 : decode cX5_takeSegment 55 = .ok (.aload_n 0, 1) := by decide +kernel
theorem dX5_takeSegment_56 : decode cX5_takeSegment 56 = .ok (.getfield 49, 3) := by decide +kernel
theorem dX5_takeSegment_59 : decode cX5_takeSegment 59 = .ok (.invokevirtual 381, 3) := by decide +kernel
theorem dX5_takeSegment_62 : decode cX5_takeSegment 62 = .ok (.invokevirtual 384, 3) := by decide +kernel
theorem dX5_takeSegment_65 : decode cX5_takeSegment 65 = .ok (.ifCond .ne 10, 3) := by decide +kernel
theorem dX5_takeSegment_68 : decode cX5_takeSegment 68 = .ok (.aload_n 0, 1) := by decide +kernel
theorem dX5_takeSegment_69 : decode cX5_takeSegment 69 = .ok (.invokevirtual 388, 3) := by decide +kernel
theorem dX5_takeSegment_72 : decode cX5_takeSegment 72 = .ok (.goto 59, 3) := by decide +kernel
theorem dX5_takeSegment_75 : decode cX5_takeSegment 75 = .ok (.aload_n 0, 1) := by decide +kernel
theorem dX5_takeSegment_76 : decode cX5_takeSegment 76 = .ok (.getfield 49, 3) := by decide +kernel
theorem dX5_takeSegment_79 : decode cX5_takeSegment 79 = .ok (.iconst 4, 1) := by decide +kernel
theorem dX5_takeSegment_80 : decode cX5_takeSegment 80 = .ok (.invokevirtual 338, 3) := by decide +kernel
theorem dX5_takeSegment_83 : decode cX5_takeSegment 83 = .ok (.ifCond .eq 10, 3) := by decide +kernel
theorem dX5_takeSegment_86 : decode cX5_takeSegment 86 = .ok (.aload_n 0, 1) := by decide +kernel
theorem dX5_takeSegment_87 : decode cX5_takeSegment 87 = .ok (.invokevirtual 391, 3) := by decide +kernel
theorem dX5_takeSegment_90 : decode cX5_takeSegment 90 = .ok (.goto 41, 3) := by decide +kernel
theorem dX5_takeSegment_93 : decode cX5_takeSegment 93 = .ok (.aload_n 0, 1) := by decide +kernel
theorem dX5_takeSegment_94 : decode cX5_takeSegment 94 = .ok (.getfield 49, 3) := by decide +kernel
theorem dX5_takeSegment_97 : decode cX5_takeSegment 97 = .ok (.iconst 1, 1) := by decide +kernel
theorem dX5_takeSegment_98 : decode cX5_takeSegment 98 = .ok (.invokevirtual 338, 3) := by decide +kernel
theorem dX5_takeSegment_101 : decode cX5_takeSegment 101 = .ok (.ifCond .eq 14, 3) := by decide +kernel
theorem dX5_takeSegment_104 : decode cX5_takeSegment 104 = .ok (.aload_n 0, 1) := by decide +kernel
theorem dX5_takeSegment_105 : decode cX5_takeSegment 105 = .ok (.getfield 42, 3) := by decide +kernel
theorem dX5_takeSegment_108 : decode cX5_takeSegment 108 = .ok (.iconst 1, 1) := by decide +kernel
theorem dX5_takeSegment_109 : decode cX5_takeSegment 109 = .ok (.putfield 206, 3) := by decide +kernel
theorem dX5_takeSegment_112 : decode cX5_takeSegment 112 = .ok (.goto 19, 3) := by decide +kernel
theorem dX5_takeSegment_115 : decode cX5_takeSegment 115 = .ok (.aload_n 0, 1) := by decide +kernel
theorem dX5_takeSegment_116 : decode cX5_takeSegment 116 = .ok (.getfield 49, 3) := by decide +kernel
theorem dX5_takeSegment_119 : decode cX5_takeSegment 119 = .ok (.bipush 8, 2) := by decide +kernel
theorem dX5_takeSegment_121 : decode cX5_takeSegment 121 = .ok (.invokevirtual 338, 3) := by decide +kernel
theorem dX5_takeSegment_124 : decode cX5_takeSegment 124 = .ok (.ifCond .eq 7, 3) := by decide +kernel
theorem dX5_takeSegment_127 : decode cX5_takeSegment 127 = .ok (.aload_n 0, 1) := by decide +kernel
theorem dX5_takeSegment_128 : decode cX5_takeSegment 128 = .ok (.invokevirtual 394, 3) := by decide +kernel
theorem dX5_takeSegment_131 : decode cX5_takeSegment 131 = .ok (.return_, 1) := by decide +kernel
theorem dX5_arrive_0 : decode cX5_arrive 0 = .ok (.iload_n 1, 1) := by decide +kernel
theorem dX5_arrive_1 : decode cX5_arrive 1 = .ok (.ifCond .lt 25, 3) := by decide +kernel
theorem dX5_arrive_4 : decode cX5_arrive 4 = .ok (.iload_n 1, 1) := by decide +kernel
theorem dX5_arrive_5 : decode cX5_arrive 5 = .ok (.bipush 15, 2) := by decide +kernel
theorem dX5_arrive_7 : decode cX5_arrive 7 = .ok (.if_icmp .gt 19, 3) := by decide +kernel
theorem dX5_arrive_10 : decode cX5_arrive 10 = .ok (.iload 4, 2) := by decide +kernel
theorem dX5_arrive_12 : decode cX5_arrive 12 = .ok (.invokestatic 247, 3) := by decide +kernel
theorem dX5_arrive_15 : decode cX5_arrive 15 = .ok (.ifCond .eq 11, 3) := by decide +kernel
theorem dX5_arrive_18 : decode cX5_arrive 18 = .ok (.iload 5, 2) := by decide +kernel
theorem dX5_arrive_20 : decode cX5_arrive 20 = .ok (.invokestatic 247, 3) := by decide +kernel
theorem dX5_arrive_23 : decode cX5_arrive 23 = .ok (.ifCond .ne 13, 3) := by decide +kernel
theorem dX5_arrive_26 : decode cX5_arrive 26 = .ok (.new 88, 3) := by decide +kernel
theorem dX5_arrive_29 : decode cX5_arrive 29 = .ok (.dup, 1) := by decide +kernel
theorem dX5_arrive_30 : decode cX5_arrive 30 = .ok (.ldc 250, 2) := by decide +kernel
theorem dX5_arrive_32 : decode cX5_arrive 32 = .ok (.invokespecial 92, 3) := by decide +kernel
theorem dX5_arrive_35 : decode cX5_arrive 35 = .ok (.athrow, 1) := by decide +kernel
theorem dX5_arrive_36 : decode cX5_arrive 36 = .ok (.aload_n 0, 1) := by decide +kernel
theorem dX5_arrive_37 : decode cX5_arrive 37 = .ok (.getfield 49, 3) := by decide +kernel
theorem dX5_arrive_40 : decode cX5_arrive 40 = .ok (.iload_n 1, 1) := by decide +kernel
theorem dX5_arrive_41 : decode cX5_arrive 41 = .ok (.iload_n 2, 1) := by decide +kernel
theorem dX5_arrive_42 : decode cX5_arrive 42 = .ok (.iload_n 3, 1) := by decide +kernel
theorem dX5_arrive_43 : decode cX5_arrive 43 = .ok (.iload 4, 2) := by decide +kernel
theorem dX5_arrive_45 : decode cX5_arrive 45 = .ok (.iload 5, 2) := by decide +kernel
theorem dX5_arrive_47 : decode cX5_arrive 47 = .ok (.invokevirtual 252, 3) := by decide +kernel
theorem dX5_arrive_50 : decode cX5_arrive 50 = .ok (.aload_n 0, 1) := by decide +kernel
theorem dX5_arrive_51 : decode cX5_arrive 51 = .ok (.invokevirtual 256, 3) := by decide +kernel
theorem dX5_arrive_54 : decode cX5_arrive 54 = .ok (.aload_n 0, 1) := by decide +kernel
theorem dX5_arrive_55 : decode cX5_arrive 55 = .ok (.getfield 49, 3) := by decide +kernel
theorem dX5_arrive_58 : decode cX5_arrive 58 = .ok (.iconst 0, 1) := by decide +kernel
theorem dX5_arrive_59 : decode cX5_arrive 59 = .ok (.putfield 230, 3) := by decide +kernel
theorem dX5_arrive_62 : decode cX5_arrive 62 = .ok (.aload_n 0, 1) := by decide +kernel
theorem dX5_arrive_63 : decode cX5_arrive 63 = .ok (.invokevirtual 116, 3) := by decide +kernel
theorem dX5_arrive_66 : decode cX5_arrive 66 = .ok (.aload_n 0, 1) := by decide +kernel
theorem dX5_arrive_67 : decode cX5_arrive 67 = .ok (.getfield 60, 3) := by decide +kernel
theorem dX5_arrive_70 : decode cX5_arrive 70 = .ok (.ireturn, 1) := by decide +kernel
theorem dX5_state_0 : decode cX5_state 0 = .ok (.aload_n 0, 1) := by decide +kernel
theorem dX5_state_1 : decode cX5_state 1 = .ok (.getfield 60, 3) := by decide +kernel
theorem dX5_state_4 : decode cX5_state 4 = .ok (.ireturn, 1) := by decide +kernel
theorem dX5_figure_0 : decode cX5_figure 0 = .ok (.iload_n 1, 1) := by decide +kernel
theorem dX5_figure_1 : decode cX5_figure 1 = .ok (.tableswitch 171 0 12 #[67, 75, 83, 91, 99, 107, 115, 123, 131, 139, 147, 155, 163], 67) := by decide +kernel
theorem dX5_figure_68 : decode cX5_figure 68 = .ok (.aload_n 0, 1) := by decide +kernel
theorem dX5_figure_69 : decode cX5_figure 69 = .ok (.getfield 21, 3) := by decide +kernel
theorem dX5_figure_72 : decode cX5_figure 72 = .ok (.getfield 259, 3) := by decide +kernel
theorem dX5_figure_75 : decode cX5_figure 75 = .ok (.ireturn, 1) := by decide +kernel
theorem dX5_figure_76 : decode cX5_figure 76 = .ok (.aload_n 0, 1) := by decide +kernel
theorem dX5_figure_77 : decode cX5_figure 77 = .ok (.getfield 21, 3) := by decide +kernel
theorem dX5_figure_80 : decode cX5_figure 80 = .ok (.getfield 137, 3) := by decide +kernel
theorem dX5_figure_83 : decode cX5_figure 83 = .ok (.ireturn, 1) := by decide +kernel
theorem dX5_figure_84 : decode cX5_figure 84 = .ok (.aload_n 0, 1) := by decide +kernel
theorem dX5_figure_85 : decode cX5_figure 85 = .ok (.getfield 21, 3) := by decide +kernel
theorem dX5_figure_88 : decode cX5_figure 88 = .ok (.getfield 262, 3) := by decide +kernel
theorem dX5_figure_91 : decode cX5_figure 91 = .ok (.ireturn, 1) := by decide +kernel
theorem dX5_figure_92 : decode cX5_figure 92 = .ok (.aload_n 0, 1) := by decide +kernel
theorem dX5_figure_93 : decode cX5_figure 93 = .ok (.getfield 28, 3) := by decide +kernel
theorem dX5_figure_96 : decode cX5_figure 96 = .ok (.getfield 140, 3) := by decide +kernel
theorem dX5_figure_99 : decode cX5_figure 99 = .ok (.ireturn, 1) := by decide +kernel
theorem dX5_figure_100 : decode cX5_figure 100 = .ok (.aload_n 0, 1) := by decide +kernel
theorem dX5_figure_101 : decode cX5_figure 101 = .ok (.getfield 28, 3) := by decide +kernel
theorem dX5_figure_104 : decode cX5_figure 104 = .ok (.invokevirtual 263, 3) := by decide +kernel
theorem dX5_figure_107 : decode cX5_figure 107 = .ok (.ireturn, 1) := by decide +kernel
theorem dX5_figure_108 : decode cX5_figure 108 = .ok (.aload_n 0, 1) := by decide +kernel
theorem dX5_figure_109 : decode cX5_figure 109 = .ok (.getfield 35, 3) := by decide +kernel
theorem dX5_figure_112 : decode cX5_figure 112 = .ok (.getfield 266, 3) := by decide +kernel
theorem dX5_figure_115 : decode cX5_figure 115 = .ok (.ireturn, 1) := by decide +kernel
theorem dX5_figure_116 : decode cX5_figure 116 = .ok (.aload_n 0, 1) := by decide +kernel
theorem dX5_figure_117 : decode cX5_figure 117 = .ok (.getfield 21, 3) := by decide +kernel
theorem dX5_figure_120 : decode cX5_figure 120 = .ok (.getfield 269, 3) := by decide +kernel
theorem dX5_figure_123 : decode cX5_figure 123 = .ok (.ireturn, 1) := by decide +kernel
theorem dX5_figure_124 : decode cX5_figure 124 = .ok (.aload_n 0, 1) := by decide +kernel
theorem dX5_figure_125 : decode cX5_figure 125 = .ok (.getfield 28, 3) := by decide +kernel
theorem dX5_figure_128 : decode cX5_figure 128 = .ok (.getfield 119, 3) := by decide +kernel
theorem dX5_figure_131 : decode cX5_figure 131 = .ok (.ireturn, 1) := by decide +kernel
theorem dX5_figure_132 : decode cX5_figure 132 = .ok (.aload_n 0, 1) := by decide +kernel
theorem dX5_figure_133 : decode cX5_figure 133 = .ok (.getfield 35, 3) := by decide +kernel
theorem dX5_figure_136 : decode cX5_figure 136 = .ok (.getfield 270, 3) := by decide +kernel
theorem dX5_figure_139 : decode cX5_figure 139 = .ok (.ireturn, 1) := by decide +kernel
theorem dX5_figure_140 : decode cX5_figure 140 = .ok (.aload_n 0, 1) := by decide +kernel
theorem dX5_figure_141 : decode cX5_figure 141 = .ok (.getfield 21, 3) := by decide +kernel
theorem dX5_figure_144 : decode cX5_figure 144 = .ok (.getfield 273, 3) := by decide +kernel
theorem dX5_figure_147 : decode cX5_figure 147 = .ok (.ireturn, 1) := by decide +kernel
theorem dX5_figure_148 : decode cX5_figure 148 = .ok (.aload_n 0, 1) := by decide +kernel
theorem dX5_figure_149 : decode cX5_figure 149 = .ok (.getfield 35, 3) := by decide +kernel
theorem dX5_figure_152 : decode cX5_figure 152 = .ok (.getfield 276, 3) := by decide +kernel
theorem dX5_figure_155 : decode cX5_figure 155 = .ok (.ireturn, 1) := by decide +kernel
theorem dX5_figure_156 : decode cX5_figure 156 = .ok (.aload_n 0, 1) := by decide +kernel
theorem dX5_figure_157 : decode cX5_figure 157 = .ok (.getfield 35, 3) := by decide +kernel
theorem dX5_figure_160 : decode cX5_figure 160 = .ok (.getfield 279, 3) := by decide +kernel
theorem dX5_figure_163 : decode cX5_figure 163 = .ok (.ireturn, 1) := by decide +kernel
theorem dX5_figure_164 : decode cX5_figure 164 = .ok (.aload_n 0, 1) := by decide +kernel
theorem dX5_figure_165 : decode cX5_figure 165 = .ok (.getfield 35, 3) := by decide +kernel
theorem dX5_figure_168 : decode cX5_figure 168 = .ok (.invokevirtual 158, 3) := by decide +kernel
theorem dX5_figure_171 : decode cX5_figure 171 = .ok (.ireturn, 1) := by decide +kernel
theorem dX5_figure_172 : decode cX5_figure 172 = .ok (.new 88, 3) := by decide +kernel
theorem dX5_figure_175 : decode cX5_figure 175 = .ok (.dup, 1) := by decide +kernel
theorem dX5_figure_176 : decode cX5_figure 176 = .ok (.ldc_w 282, 3) := by decide +kernel
theorem dX5_figure_179 : decode cX5_figure 179 = .ok (.invokespecial 92, 3) := by decide +kernel
theorem dX5_figure_182 : decode cX5_figure 182 = .ok (.athrow, 1) := by decide +kernel
