theorem dX2_init_0 : decode cX2_init 0 = .ok (.aload_n 0, 1) := by decide +kernel
theorem dX2_init_1 : decode cX2_init 1 = .ok (.invokespecial 3, 3) := by decide +kernel
theorem dX2_init_4 : decode cX2_init 4 = .ok (.aload_n 0, 1) := by decide +kernel
theorem dX2_init_5 : decode cX2_init 5 = .ok (.iconst 2, 1) := by decide +kernel
theorem dX2_init_6 : decode cX2_init 6 = .ok (.putfield 9, 3) := by decide +kernel
theorem dX2_init_9 : decode cX2_init 9 = .ok (.aload_n 0, 1) := by decide +kernel
theorem dX2_init_10 : decode cX2_init 10 = .ok (.iconst 1, 1) := by decide +kernel
theorem dX2_init_11 : decode cX2_init 11 = .ok (.putfield 15, 3) := by decide +kernel
theorem dX2_init_14 : decode cX2_init 14 = .ok (.aload_n 0, 1) := by decide +kernel
theorem dX2_init_15 : decode cX2_init 15 = .ok (.iconst 2, 1) := by decide +kernel
theorem dX2_init_16 : decode cX2_init 16 = .ok (.putfield 18, 3) := by decide +kernel
theorem dX2_init_19 : decode cX2_init 19 = .ok (.aload_n 0, 1) := by decide +kernel
theorem dX2_init_20 : decode cX2_init 20 = .ok (.bipush 6, 2) := by decide +kernel
theorem dX2_init_22 : decode cX2_init 22 = .ok (.putfield 21, 3) := by decide +kernel
theorem dX2_init_25 : decode cX2_init 25 = .ok (.aload_n 0, 1) := by decide +kernel
theorem dX2_init_26 : decode cX2_init 26 = .ok (.bipush 49, 2) := by decide +kernel
theorem dX2_init_28 : decode cX2_init 28 = .ok (.newarray .int, 2) := by decide +kernel
theorem dX2_init_30 : decode cX2_init 30 = .ok (.putfield 24, 3) := by decide +kernel
theorem dX2_init_33 : decode cX2_init 33 = .ok (.aload_n 0, 1) := by decide +kernel
theorem dX2_init_34 : decode cX2_init 34 = .ok (.bipush 49, 2) := by decide +kernel
theorem dX2_init_36 : decode cX2_init 36 = .ok (.newarray .int, 2) := by decide +kernel
theorem dX2_init_38 : decode cX2_init 38 = .ok (.putfield 28, 3) := by decide +kernel
theorem dX2_init_41 : decode cX2_init 41 = .ok (.aload_n 0, 1) := by decide +kernel
theorem dX2_init_42 : decode cX2_init 42 = .ok (.bipush 49, 2) := by decide +kernel
theorem dX2_init_44 : decode cX2_init 44 = .ok (.newarray .int, 2) := by decide +kernel
theorem dX2_init_46 : decode cX2_init 46 = .ok (.putfield 31, 3) := by decide +kernel
theorem dX2_init_49 : decode cX2_init 49 = .ok (.aload_n 0, 1) := by decide +kernel
theorem dX2_init_50 : decode cX2_init 50 = .ok (.iconst (-1), 1) := by decide +kernel
theorem dX2_init_51 : decode cX2_init 51 = .ok (.putfield 34, 3) := by decide +kernel
theorem dX2_init_54 : decode cX2_init 54 = .ok (.aload_n 0, 1) := by decide +kernel
theorem dX2_init_55 : decode cX2_init 55 = .ok (.iconst (-1), 1) := by decide +kernel
theorem dX2_init_56 : decode cX2_init 56 = .ok (.putfield 37, 3) := by decide +kernel
theorem dX2_init_59 : decode cX2_init 59 = .ok (.aload_n 0, 1) := by decide +kernel
theorem dX2_init_60 : decode cX2_init 60 = .ok (.iconst (-1), 1) := by decide +kernel
theorem dX2_init_61 : decode cX2_init 61 = .ok (.putfield 40, 3) := by decide +kernel
theorem dX2_init_64 : decode cX2_init 64 = .ok (.aload_n 0, 1) := by decide +kernel
theorem dX2_init_65 : decode cX2_init 65 = .ok (.iconst (-1), 1) := by decide +kernel
theorem dX2_init_66 : decode cX2_init 66 = .ok (.putfield 43, 3) := by decide +kernel
theorem dX2_init_69 : decode cX2_init 69 = .ok (.aload_n 0, 1) := by decide +kernel
theorem dX2_init_70 : decode cX2_init 70 = .ok (.iconst (-1), 1) := by decide +kernel
theorem dX2_init_71 : decode cX2_init 71 = .ok (.putfield 46, 3) := by decide +kernel
theorem dX2_init_74 : decode cX2_init 74 = .ok (.return_, 1) := by decide +kernel
theorem dX2_useScores_0 : decode cX2_useScores 0 = .ok (.aload_n 0, 1) := by decide +kernel
theorem dX2_useScores_1 : decode cX2_useScores 1 = .ok (.iload_n 1, 1) := by decide +kernel
theorem dX2_useScores_2 : decode cX2_useScores 2 = .ok (.putfield 9, 3) := by decide +kernel
theorem dX2_useScores_5 : decode cX2_useScores 5 = .ok (.aload_n 0, 1) := by decide +kernel
theorem dX2_useScores_6 : decode cX2_useScores 6 = .ok (.iload_n 2, 1) := by decide +kernel
theorem dX2_useScores_7 : decode cX2_useScores 7 = .ok (.putfield 15, 3) := by decide +kernel
theorem dX2_useScores_10 : decode cX2_useScores 10 = .ok (.aload_n 0, 1) := by decide +kernel
theorem dX2_useScores_11 : decode cX2_useScores 11 = .ok (.iload_n 3, 1) := by decide +kernel
theorem dX2_useScores_12 : decode cX2_useScores 12 = .ok (.putfield 18, 3) := by decide +kernel
theorem dX2_useScores_15 : decode cX2_useScores 15 = .ok (.aload_n 0, 1) := by decide +kernel
theorem dX2_useScores_16 : decode cX2_useScores 16 = .ok (.iload 4, 2) := by decide +kernel
theorem dX2_useScores_18 : decode cX2_useScores 18 = .ok (.putfield 21, 3) := by decide +kernel
theorem dX2_useScores_21 : decode cX2_useScores 21 = .ok (.return_, 1) := by decide +kernel
theorem dX2_walk_0 : decode cX2_walk 0 = .ok (.aload_n 0, 1) := by decide +kernel
theorem dX2_walk_1 : decode cX2_walk 1 = .ok (.invokevirtual 49, 3) := by decide +kernel
theorem dX2_walk_4 : decode cX2_walk 4 = .ok (.aload_n 1, 1) := by decide +kernel
theorem dX2_walk_5 : decode cX2_walk 5 = .ok (.invokevirtual 52, 3) := by decide +kernel
theorem dX2_walk_8 : decode cX2_walk 8 = .ok (.iload_n 2, 1) := by decide +kernel
theorem dX2_walk_9 : decode cX2_walk 9 = .ok (.isub, 1) := by decide +kernel
theorem dX2_walk_10 : decode cX2_walk 10 = .ok (.aload_n 3, 1) := by decide +kernel
theorem dX2_walk_11 : decode cX2_walk 11 = .ok (.invokevirtual 52, 3) := by decide +kernel
theorem dX2_walk_14 : decode cX2_walk 14 = .ok (.iadd, 1) := by decide +kernel
theorem dX2_walk_15 : decode cX2_walk 15 = .ok (.iload 4, 2) := by decide +kernel
theorem dX2_walk_17 : decode cX2_walk 17 = .ok (.isub, 1) := by decide +kernel
theorem dX2_walk_18 : decode cX2_walk 18 = .ok (.istore 5, 2) := by decide +kernel
theorem dX2_walk_20 : decode cX2_walk 20 = .ok (.iconst 1, 1) := by decide +kernel
theorem dX2_walk_21 : decode cX2_walk 21 = .ok (.istore 6, 2) := by decide +kernel
theorem dX2_walk_23 : decode cX2_walk 23 = .ok (.iload 6, 2) := by decide +kernel
theorem dX2_walk_25 : decode cX2_walk 25 = .ok (.iload 5, 2) := by decide +kernel
theorem dX2_walk_27 : decode cX2_walk 27 = .ok (.if_icmp .gt 35, 3) := by decide +kernel
theorem dX2_walk_30 : decode cX2_walk 30 = .ok (.iload 6, 2) := by decide +kernel
theorem dX2_walk_32 : decode cX2_walk 32 = .ok (.aload_n 0, 1) := by decide +kernel
theorem dX2_walk_33 : decode cX2_walk 33 = .ok (.getfield 46, 3) := by decide +kernel
theorem dX2_walk_36 : decode cX2_walk 36 = .ok (.iconst 2, 1) := by decide +kernel
theorem dX2_walk_37 : decode cX2_walk 37 = .ok (.iadd, 1) := by decide +kernel
theorem dX2_walk_38 : decode cX2_walk 38 = .ok (.if_icmp .gt 24, 3) := by decide +kernel
theorem dX2_walk_41 : decode cX2_walk 41 = .ok (.aload_n 0, 1) := by decide +kernel
theorem dX2_walk_42 : decode cX2_walk 42 = .ok (.invokevirtual 58, 3) := by decide +kernel
theorem dX2_walk_45 : decode cX2_walk 45 = .ok (.aload_n 0, 1) := by decide +kernel
theorem dX2_walk_46 : decode cX2_walk 46 = .ok (.aload_n 1, 1) := by decide +kernel
theorem dX2_walk_47 : decode cX2_walk 47 = .ok (.iload_n 2, 1) := by decide +kernel
theorem dX2_walk_48 : decode cX2_walk 48 = .ok (.aload_n 3, 1) := by decide +kernel
theorem dX2_walk_49 : decode cX2_walk 49 = .ok (.iload 4, 2) := by decide +kernel
theorem dX2_walk_51 : decode cX2_walk 51 = .ok (.iload 6, 2) := by decide +kernel
theorem dX2_walk_53 : decode cX2_walk 53 = .ok (.invokevirtual 61, 3) := by decide +kernel
theorem dX2_walk_56 : decode cX2_walk 56 = .ok (.iinc 6 1, 3) := by decide +kernel
theorem dX2_walk_59 : decode cX2_walk 59 = .ok (.goto (-36), 3) := by decide +kernel
theorem dX2_walk_62 : decode cX2_walk 62 = .ok (.return_, 1) := by decide +kernel
theorem dX2_begin_0 : decode cX2_begin 0 = .ok (.aload_n 0, 1) := by decide +kernel
theorem dX2_begin_1 : decode cX2_begin 1 = .ok (.getfield 31, 3) := by decide +kernel
theorem dX2_begin_4 : decode cX2_begin 4 = .ok (.ldc 65, 2) := by decide +kernel
theorem dX2_begin_6 : decode cX2_begin 6 = .ok (.invokestatic 66, 3) := by decide +kernel
theorem dX2_begin_9 : decode cX2_begin 9 = .ok (.aload_n 0, 1) := by decide +kernel
theorem dX2_begin_10 : decode cX2_begin 10 = .ok (.getfield 31, 3) := by decide +kernel
theorem dX2_begin_13 : decode cX2_begin 13 = .ok (.iconst 0, 1) := by decide +kernel
theorem dX2_begin_14 : decode cX2_begin 14 = .ok (.iconst 0, 1) := by decide +kernel
theorem dX2_begin_15 : decode cX2_begin 15 = .ok (.iastore, 1) := by decide +kernel
theorem dX2_begin_16 : decode cX2_begin 16 = .ok (.aload_n 0, 1) := by decide +kernel
theorem dX2_begin_17 : decode cX2_begin 17 = .ok (.iconst 0, 1) := by decide +kernel
theorem dX2_begin_18 : decode cX2_begin 18 = .ok (.putfield 34, 3) := by decide +kernel
theorem dX2_begin_21 : decode cX2_begin 21 = .ok (.aload_n 0, 1) := by decide +kernel
theorem dX2_begin_22 : decode cX2_begin 22 = .ok (.iconst 0, 1) := by decide +kernel
theorem dX2_begin_23 : decode cX2_begin 23 = .ok (.putfield 37, 3) := by decide +kernel
theorem dX2_begin_26 : decode cX2_begin 26 = .ok (.aload_n 0, 1) := by decide +kernel
theorem dX2_begin_27 : decode cX2_begin 27 = .ok (.iconst 0, 1) := by decide +kernel
theorem dX2_begin_28 : decode cX2_begin 28 = .ok (.putfield 40, 3) := by decide +kernel
theorem dX2_begin_31 : decode cX2_begin 31 = .ok (.aload_n 0, 1) := by decide +kernel
theorem dX2_begin_32 : decode cX2_begin 32 = .ok (.iconst 1, 1) := by decide +kernel
theorem dX2_begin_33 : decode cX2_begin 33 = .ok (.putfield 43, 3) := by decide +kernel
theorem dX2_begin_36 : decode cX2_begin 36 = .ok (.aload_n 0, 1) := by decide +kernel
theorem dX2_begin_37 : decode cX2_begin 37 = .ok (.iconst 0, 1) := by decide +kernel
theorem dX2_begin_38 : decode cX2_begin 38 = .ok (.putfield 46, 3) := by decide +kernel
theorem dX2_begin_41 : decode cX2_begin 41 = .ok (.return_, 1) := by decide +kernel
theorem dX2_turnSlopes_0 : decode cX2_turnSlopes 0 = .ok (.aload_n 0, 1) := by decide +kernel
theorem dX2_turnSlopes_1 : decode cX2_turnSlopes 1 = .ok (.getfield 24, 3) := by decide +kernel
theorem dX2_turnSlopes_4 : decode cX2_turnSlopes 4 = .ok (.astore_n 1, 1) := by decide +kernel
theorem dX2_turnSlopes_5 : decode cX2_turnSlopes 5 = .ok (.aload_n 0, 1) := by decide +kernel
theorem dX2_turnSlopes_6 : decode cX2_turnSlopes 6 = .ok (.aload_n 0, 1) := by decide +kernel
theorem dX2_turnSlopes_7 : decode cX2_turnSlopes 7 = .ok (.getfield 28, 3) := by decide +kernel
theorem dX2_turnSlopes_10 : decode cX2_turnSlopes 10 = .ok (.putfield 24, 3) := by decide +kernel
theorem dX2_turnSlopes_13 : decode cX2_turnSlopes 13 = .ok (.aload_n 0, 1) := by decide +kernel
theorem dX2_turnSlopes_14 : decode cX2_turnSlopes 14 = .ok (.aload_n 0, 1) := by decide +kernel
theorem dX2_turnSlopes_15 : decode cX2_turnSlopes 15 = .ok (.getfield 31, 3) := by decide +kernel
theorem dX2_turnSlopes_18 : decode cX2_turnSlopes 18 = .ok (.putfield 28, 3) := by decide +kernel
theorem dX2_turnSlopes_21 : decode cX2_turnSlopes 21 = .ok (.aload_n 0, 1) := by decide +kernel
theorem dX2_turnSlopes_22 : decode cX2_turnSlopes 22 = .ok (.aload_n 1, 1) := by decide +kernel
theorem dX2_turnSlopes_23 : decode cX2_turnSlopes 23 = .ok (.putfield 31, 3) := by decide +kernel
theorem dX2_turnSlopes_26 : decode cX2_turnSlopes 26 = .ok (.aload_n 0, 1) := by decide +kernel
theorem dX2_turnSlopes_27 : decode cX2_turnSlopes 27 = .ok (.getfield 31, 3) := by decide +kernel
theorem dX2_turnSlopes_30 : decode cX2_turnSlopes 30 = .ok (.ldc 65, 2) := by decide +kernel
theorem dX2_turnSlopes_32 : decode cX2_turnSlopes 32 = .ok (.invokestatic 66, 3) := by decide +kernel
theorem dX2_turnSlopes_35 : decode cX2_turnSlopes 35 = .ok (.return_, 1) := by decide +kernel
theorem dX2_walkSlope_0 : decode cX2_walkSlope 0 = .ok (.aload_n 0, 1) := by decide +kernel
theorem dX2_walkSlope_1 : decode cX2_walkSlope 1 = .ok (.getfield 34, 3) := by decide +kernel
theorem dX2_walkSlope_4 : decode cX2_walkSlope 4 = .ok (.aload_n 0, 1) := by decide +kernel
theorem dX2_walkSlope_5 : decode cX2_walkSlope 5 = .ok (.getfield 21, 3) := by decide +kernel
theorem dX2_walkSlope_8 : decode cX2_walkSlope 8 = .ok (.isub, 1) := by decide +kernel
theorem dX2_walkSlope_9 : decode cX2_walkSlope 9 = .ok (.istore 6, 2) := by decide +kernel
theorem dX2_walkSlope_11 : decode cX2_walkSlope 11 = .ok (.iload 5, 2) := by decide +kernel
theorem dX2_walkSlope_13 : decode cX2_walkSlope 13 = .ok (.aload_n 1, 1) := by decide +kernel
theorem dX2_walkSlope_14 : decode cX2_walkSlope 14 = .ok (.invokevirtual 52, 3) := by decide +kernel
theorem dX2_walkSlope_17 : decode cX2_walkSlope 17 = .ok (.iload_n 2, 1) := by decide +kernel
theorem dX2_walkSlope_18 : decode cX2_walkSlope 18 = .ok (.isub, 1) := by decide +kernel
theorem dX2_walkSlope_19 : decode cX2_walkSlope 19 = .ok (.invokestatic 72, 3) := by decide +kernel
theorem dX2_walkSlope_22 : decode cX2_walkSlope 22 = .ok (.istore 7, 2) := by decide +kernel
theorem dX2_walkSlope_24 : decode cX2_walkSlope 24 = .ok (.iconst 0, 1) := by decide +kernel
theorem dX2_walkSlope_25 : decode cX2_walkSlope 25 = .ok (.iload 5, 2) := by decide +kernel
theorem dX2_walkSlope_27 : decode cX2_walkSlope 27 = .ok (.aload_n 3, 1) := by decide +kernel
theorem dX2_walkSlope_28 : decode cX2_walkSlope 28 = .ok (.invokevirtual 52, 3) := by decide +kernel
theorem dX2_walkSlope_31 : decode cX2_walkSlope 31 = .ok (.iload 4, 2) := by decide +kernel
theorem dX2_walkSlope_33 : decode cX2_walkSlope 33 = .ok (.isub, 1) := by decide +kernel
theorem dX2_walkSlope_34 : decode cX2_walkSlope 34 = .ok (.isub, 1) := by decide +kernel
theorem dX2_walkSlope_35 : decode cX2_walkSlope 35 = .ok (.invokestatic 78, 3) := by decide +kernel
theorem dX2_walkSlope_38 : decode cX2_walkSlope 38 = .ok (.istore 8, 2) := by decide +kernel
theorem dX2_walkSlope_40 : decode cX2_walkSlope 40 = .ok (.iload 8, 2) := by decide +kernel
theorem dX2_walkSlope_42 : decode cX2_walkSlope 42 = .ok (.iload 7, 2) := by decide +kernel
theorem dX2_walkSlope_44 : decode cX2_walkSlope 44 = .ok (.if_icmp .gt 116, 3) := by decide +kernel
theorem dX2_walkSlope_47 : decode cX2_walkSlope 47 = .ok (.iload 5, 2) := by decide +kernel
theorem dX2_walkSlope_49 : decode cX2_walkSlope 49 = .ok (.iload 8, 2) := by decide +kernel
theorem dX2_walkSlope_51 : decode cX2_walkSlope 51 = .ok (.isub, 1) := by decide +kernel
theorem dX2_walkSlope_52 : decode cX2_walkSlope 52 = .ok (.istore 9, 2) := by decide +kernel
theorem dX2_walkSlope_54 : decode cX2_walkSlope 54 = .ok (.aload_n 0, 1) := by decide +kernel
theorem dX2_walkSlope_55 : decode cX2_walkSlope 55 = .ok (.iload 8, 2) := by decide +kernel
theorem dX2_walkSlope_57 : decode cX2_walkSlope 57 = .ok (.invokevirtual 81, 3) := by decide +kernel
theorem dX2_walkSlope_60 : decode cX2_walkSlope 60 = .ok (.istore 10, 2) := by decide +kernel
theorem dX2_walkSlope_62 : decode cX2_walkSlope 62 = .ok (.iload 8, 2) := by decide +kernel
theorem dX2_walkSlope_64 : decode cX2_walkSlope 64 = .ok (.ifCond .le 73, 3) := by decide +kernel
theorem dX2_walkSlope_67 : decode cX2_walkSlope 67 = .ok (.iload 9, 2) := by decide +kernel
theorem dX2_walkSlope_69 : decode cX2_walkSlope 69 = .ok (.ifCond .le 68, 3) := by decide +kernel
theorem dX2_walkSlope_72 : decode cX2_walkSlope 72 = .ok (.aload_n 1, 1) := by decide +kernel
theorem dX2_walkSlope_73 : decode cX2_walkSlope 73 = .ok (.iload_n 2, 1) := by decide +kernel
theorem dX2_walkSlope_74 : decode cX2_walkSlope 74 = .ok (.iload 8, 2) := by decide +kernel
theorem dX2_walkSlope_76 : decode cX2_walkSlope 76 = .ok (.iadd, 1) := by decide +kernel
theorem dX2_walkSlope_77 : decode cX2_walkSlope 77 = .ok (.iconst 1, 1) := by decide +kernel
theorem dX2_walkSlope_78 : decode cX2_walkSlope 78 = .ok (.isub, 1) := by decide +kernel
theorem dX2_walkSlope_79 : decode cX2_walkSlope 79 = .ok (.invokevirtual 85, 3) := by decide +kernel
theorem dX2_walkSlope_82 : decode cX2_walkSlope 82 = .ok (.aload_n 3, 1) := by decide +kernel
theorem dX2_walkSlope_83 : decode cX2_walkSlope 83 = .ok (.iload 4, 2) := by decide +kernel
theorem dX2_walkSlope_85 : decode cX2_walkSlope 85 = .ok (.iload 9, 2) := by decide +kernel
theorem dX2_walkSlope_87 : decode cX2_walkSlope 87 = .ok (.iadd, 1) := by decide +kernel
theorem dX2_walkSlope_88 : decode cX2_walkSlope 88 = .ok (.iconst 1, 1) := by decide +kernel
theorem dX2_walkSlope_89 : decode cX2_walkSlope 89 = .ok (.isub, 1) := by decide +kernel
theorem dX2_walkSlope_90 : decode cX2_walkSlope 90 = .ok (.invokevirtual 85, 3) := by decide +kernel
theorem dX2_walkSlope_93 : decode cX2_walkSlope 93 = .ok (.if_icmp .ne 7, 3) := by decide +kernel
theorem dX2_walkSlope_96 : decode cX2_walkSlope 96 = .ok (.iconst 1, 1) := by decide +kernel
theorem dX2_walkSlope_97 : decode cX2_walkSlope 97 = .ok (.goto 4, 3) := by decide +kernel
theorem dX2_walkSlope_100 : decode cX2_walkSlope 100 = .ok (.iconst 0, 1) := by decide +kernel
theorem dX2_walkSlope_101 : decode cX2_walkSlope 101 = .ok (.istore 11, 2) := by decide +kernel
theorem dX2_walkSlope_103 : decode cX2_walkSlope 103 = .ok (.iload 10, 2) := by decide +kernel
theorem dX2_walkSlope_105 : decode cX2_walkSlope 105 = .ok (.aload_n 0, 1) := by decide +kernel
theorem dX2_walkSlope_106 : decode cX2_walkSlope 106 = .ok (.getfield 24, 3) := by decide +kernel
theorem dX2_walkSlope_109 : decode cX2_walkSlope 109 = .ok (.iload 8, 2) := by decide +kernel
theorem dX2_walkSlope_111 : decode cX2_walkSlope 111 = .ok (.iconst 1, 1) := by decide +kernel
theorem dX2_walkSlope_112 : decode cX2_walkSlope 112 = .ok (.isub, 1) := by decide +kernel
theorem dX2_walkSlope_113 : decode cX2_walkSlope 113 = .ok (.iaload, 1) := by decide +kernel
theorem dX2_walkSlope_114 : decode cX2_walkSlope 114 = .ok (.iload 11, 2) := by decide +kernel
theorem dX2_walkSlope_116 : decode cX2_walkSlope 116 = .ok (.ifCond .eq 10, 3) := by decide +kernel
theorem dX2_walkSlope_119 : decode cX2_walkSlope 119 = .ok (.aload_n 0, 1) := by decide +kernel
theorem dX2_walkSlope_120 : decode cX2_walkSlope 120 = .ok (.getfield 9, 3) := by decide +kernel
theorem dX2_walkSlope_123 : decode cX2_walkSlope 123 = .ok (.goto 8, 3) := by decide +kernel
theorem dX2_walkSlope_126 : decode cX2_walkSlope 126 = .ok (.aload_n 0, 1) := by decide +kernel
theorem dX2_walkSlope_127 : decode cX2_walkSlope 127 = .ok (.getfield 15, 3) := by decide +kernel
theorem dX2_walkSlope_130 : decode cX2_walkSlope 130 = .ok (.ineg, 1) := by decide +kernel
theorem dX2_walkSlope_131 : decode cX2_walkSlope 131 = .ok (.iadd, 1) := by decide +kernel
theorem dX2_walkSlope_132 : decode cX2_walkSlope 132 = .ok (.invokestatic 78, 3) := by decide +kernel
theorem dX2_walkSlope_135 : decode cX2_walkSlope 135 = .ok (.istore 10, 2) := by decide +kernel
theorem dX2_walkSlope_137 : decode cX2_walkSlope 137 = .ok (.iload 10, 2) := by decide +kernel
theorem dX2_walkSlope_139 : decode cX2_walkSlope 139 = .ok (.iload 6, 2) := by decide +kernel
theorem dX2_walkSlope_141 : decode cX2_walkSlope 141 = .ok (.if_icmp .lt 13, 3) := by decide +kernel
theorem dX2_walkSlope_144 : decode cX2_walkSlope 144 = .ok (.aload_n 0, 1) := by decide +kernel
theorem dX2_walkSlope_145 : decode cX2_walkSlope 145 = .ok (.iload 8, 2) := by decide +kernel
theorem dX2_walkSlope_147 : decode cX2_walkSlope 147 = .ok (.iload 9, 2) := by decide +kernel
theorem dX2_walkSlope_149 : decode cX2_walkSlope 149 = .ok (.iload 10, 2) := by decide +kernel
theorem dX2_walkSlope_151 : decode cX2_walkSlope 151 = .ok (.invokevirtual 88, 3) := by decide +kernel
theorem dX2_walkSlope_154 : decode cX2_walkSlope 154 = .ok (.iinc 8 1, 3) := by decide +kernel
theorem dX2_walkSlope_157 : decode cX2_walkSlope 157 = .ok (.goto (-117), 3) := by decide +kernel
theorem dX2_walkSlope_160 : decode cX2_walkSlope 160 = .ok (.return_, 1) := by decide +kernel
theorem dX2_gapScore_0 : decode cX2_gapScore 0 = .ok (.aload_n 0, 1) := by decide +kernel
theorem dX2_gapScore_1 : decode cX2_gapScore 1 = .ok (.getfield 28, 3) := by decide +kernel
theorem dX2_gapScore_4 : decode cX2_gapScore 4 = .ok (.iload_n 1, 1) := by decide +kernel
theorem dX2_gapScore_5 : decode cX2_gapScore 5 = .ok (.iaload, 1) := by decide +kernel
theorem dX2_gapScore_6 : decode cX2_gapScore 6 = .ok (.istore_n 2, 1) := by decide +kernel
theorem dX2_gapScore_7 : decode cX2_gapScore 7 = .ok (.iload_n 1, 1) := by decide +kernel
theorem dX2_gapScore_8 : decode cX2_gapScore 8 = .ok (.ifCond .le 16, 3) := by decide +kernel
theorem dX2_gapScore_11 : decode cX2_gapScore 11 = .ok (.iload_n 2, 1) := by decide +kernel
theorem dX2_gapScore_12 : decode cX2_gapScore 12 = .ok (.aload_n 0, 1) := by decide +kernel
theorem dX2_gapScore_13 : decode cX2_gapScore 13 = .ok (.getfield 28, 3) := by decide +kernel
theorem dX2_gapScore_16 : decode cX2_gapScore 16 = .ok (.iload_n 1, 1) := by decide +kernel
theorem dX2_gapScore_17 : decode cX2_gapScore 17 = .ok (.iconst 1, 1) := by decide +kernel
theorem dX2_gapScore_18 : decode cX2_gapScore 18 = .ok (.isub, 1) := by decide +kernel
theorem dX2_gapScore_19 : decode cX2_gapScore 19 = .ok (.iaload, 1) := by decide +kernel
theorem dX2_gapScore_20 : decode cX2_gapScore 20 = .ok (.invokestatic 78, 3) := by decide +kernel
theorem dX2_gapScore_23 : decode cX2_gapScore 23 = .ok (.istore_n 2, 1) := by decide +kernel
theorem dX2_gapScore_24 : decode cX2_gapScore 24 = .ok (.iload_n 2, 1) := by decide +kernel
theorem dX2_gapScore_25 : decode cX2_gapScore 25 = .ok (.aload_n 0, 1) := by decide +kernel
theorem dX2_gapScore_26 : decode cX2_gapScore 26 = .ok (.getfield 18, 3) := by decide +kernel
theorem dX2_gapScore_29 : decode cX2_gapScore 29 = .ok (.isub, 1) := by decide +kernel
theorem dX2_gapScore_30 : decode cX2_gapScore 30 = .ok (.ireturn, 1) := by decide +kernel
theorem dX2_keepAlive_0 : decode cX2_keepAlive 0 = .ok (.aload_n 0, 1) := by decide +kernel
theorem dX2_keepAlive_1 : decode cX2_keepAlive 1 = .ok (.getfield 31, 3) := by decide +kernel
theorem dX2_keepAlive_4 : decode cX2_keepAlive 4 = .ok (.iload_n 1, 1) := by decide +kernel
theorem dX2_keepAlive_5 : decode cX2_keepAlive 5 = .ok (.iload_n 3, 1) := by decide +kernel
theorem dX2_keepAlive_6 : decode cX2_keepAlive 6 = .ok (.iastore, 1) := by decide +kernel
theorem dX2_keepAlive_7 : decode cX2_keepAlive 7 = .ok (.aload_n 0, 1) := by decide +kernel
theorem dX2_keepAlive_8 : decode cX2_keepAlive 8 = .ok (.dup, 1) := by decide +kernel
theorem dX2_keepAlive_9 : decode cX2_keepAlive 9 = .ok (.getfield 43, 3) := by decide +kernel
theorem dX2_keepAlive_12 : decode cX2_keepAlive 12 = .ok (.iconst 1, 1) := by decide +kernel
theorem dX2_keepAlive_13 : decode cX2_keepAlive 13 = .ok (.iadd, 1) := by decide +kernel
theorem dX2_keepAlive_14 : decode cX2_keepAlive 14 = .ok (.putfield 43, 3) := by decide +kernel
theorem dX2_keepAlive_17 : decode cX2_keepAlive 17 = .ok (.aload_n 0, 1) := by decide +kernel
theorem dX2_keepAlive_18 : decode cX2_keepAlive 18 = .ok (.iload_n 1, 1) := by decide +kernel
theorem dX2_keepAlive_19 : decode cX2_keepAlive 19 = .ok (.iload_n 2, 1) := by decide +kernel
theorem dX2_keepAlive_20 : decode cX2_keepAlive 20 = .ok (.iadd, 1) := by decide +kernel
theorem dX2_keepAlive_21 : decode cX2_keepAlive 21 = .ok (.putfield 46, 3) := by decide +kernel
theorem dX2_keepAlive_24 : decode cX2_keepAlive 24 = .ok (.iload_n 3, 1) := by decide +kernel
theorem dX2_keepAlive_25 : decode cX2_keepAlive 25 = .ok (.aload_n 0, 1) := by decide +kernel
theorem dX2_keepAlive_26 : decode cX2_keepAlive 26 = .ok (.getfield 34, 3) := by decide +kernel
theorem dX2_keepAlive_29 : decode cX2_keepAlive 29 = .ok (.if_icmp .le 18, 3) := by decide +kernel
theorem dX2_keepAlive_32 : decode cX2_keepAlive 32 = .ok (.aload_n 0, 1) := by decide +kernel
theorem dX2_keepAlive_33 : decode cX2_keepAlive 33 = .ok (.iload_n 3, 1) := by decide +kernel
theorem dX2_keepAlive_34 : decode cX2_keepAlive 34 = .ok (.putfield 34, 3) := by decide +kernel
theorem dX2_keepAlive_37 : decode cX2_keepAlive 37 = .ok (.aload_n 0, 1) := by decide +kernel
theorem dX2_keepAlive_38 : decode cX2_keepAlive 38 = .ok (.iload_n 1, 1) := by decide +kernel
theorem dX2_keepAlive_39 : decode cX2_keepAlive 39 = .ok (.putfield 37, 3) := by decide +kernel
theorem dX2_keepAlive_42 : decode cX2_keepAlive 42 = .ok (.aload_n 0, 1) := by decide +kernel
theorem dX2_keepAlive_43 : decode cX2_keepAlive 43 = .ok (.iload_n 2, 1) := by decide +kernel
theorem dX2_keepAlive_44 : decode cX2_keepAlive 44 = .ok (.putfield 40, 3) := by decide +kernel
theorem dX2_keepAlive_47 : decode cX2_keepAlive 47 = .ok (.return_, 1) := by decide +kernel
theorem dX2_endScore_0 : decode cX2_endScore 0 = .ok (.aload_n 0, 1) := by decide +kernel
theorem dX2_endScore_1 : decode cX2_endScore 1 = .ok (.getfield 34, 3) := by decide +kernel
theorem dX2_endScore_4 : decode cX2_endScore 4 = .ok (.ireturn, 1) := by decide +kernel
theorem dX2_outcome_0 : decode cX2_outcome 0 = .ok (.iload_n 1, 1) := by decide +kernel
theorem dX2_outcome_1 : decode cX2_outcome 1 = .ok (.tableswitch 51 0 3 #[31, 36, 41, 46], 31) := by decide +kernel
theorem dX2_outcome_32 : decode cX2_outcome 32 = .ok (.aload_n 0, 1) := by decide +kernel
theorem dX2_outcome_33 : decode cX2_outcome 33 = .ok (.getfield 37, 3) := by decide +kernel
theorem dX2_outcome_36 : decode cX2_outcome 36 = .ok (.ireturn, 1) := by decide +kernel
theorem dX2_outcome_37 : decode cX2_outcome 37 = .ok (.aload_n 0, 1) := by decide +kernel
theorem dX2_outcome_38 : decode cX2_outcome 38 = .ok (.getfield 40, 3) := by decide +kernel
theorem dX2_outcome_41 : decode cX2_outcome 41 = .ok (.ireturn, 1) := by decide +kernel
theorem dX2_outcome_42 : decode cX2_outcome 42 = .ok (.aload_n 0, 1) := by decide +kernel
theorem dX2_outcome_43 : decode cX2_outcome 43 = .ok (.getfield 43, 3) := by decide +kernel
theorem dX2_outcome_46 : decode cX2_outcome 46 = .ok (.ireturn, 1) := by decide +kernel
theorem dX2_outcome_47 : decode cX2_outcome 47 = .ok (.aload_n 0, 1) := by decide +kernel
theorem dX2_outcome_48 : decode cX2_outcome 48 = .ok (.getfield 46, 3) := by decide +kernel
theorem dX2_outcome_51 : decode cX2_outcome 51 = .ok (.ireturn, 1) := by decide +kernel
theorem dX2_outcome_52 : decode cX2_outcome 52 = .ok (.iconst (-1), 1) := by decide +kernel
theorem dX2_outcome_53 : decode cX2_outcome 53 = .ok (.ireturn, 1) := by decide +kernel
