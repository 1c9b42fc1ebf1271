theorem dX0_init_0 : decode cX0_init 0 = .ok (.aload_n 0, 1) := by decide +kernel
theorem dX0_init_1 : decode cX0_init 1 = .ok (.invokespecial 3, 3) := by decide +kernel
theorem dX0_init_4 : decode cX0_init 4 = .ok (.aload_n 0, 1) := by decide +kernel
theorem dX0_init_5 : decode cX0_init 5 = .ok (.sipush 2401, 3) := by decide +kernel
theorem dX0_init_8 : decode cX0_init 8 = .ok (.newarray .int, 2) := by decide +kernel
theorem dX0_init_10 : decode cX0_init 10 = .ok (.putfield 11, 3) := by decide +kernel
theorem dX0_init_13 : decode cX0_init 13 = .ok (.aload_n 0, 1) := by decide +kernel
theorem dX0_init_14 : decode cX0_init 14 = .ok (.bipush 48, 2) := by decide +kernel
theorem dX0_init_16 : decode cX0_init 16 = .ok (.newarray .int, 2) := by decide +kernel
theorem dX0_init_18 : decode cX0_init 18 = .ok (.putfield 15, 3) := by decide +kernel
theorem dX0_init_21 : decode cX0_init 21 = .ok (.aload_n 0, 1) := by decide +kernel
theorem dX0_init_22 : decode cX0_init 22 = .ok (.iconst 0, 1) := by decide +kernel
theorem dX0_init_23 : decode cX0_init 23 = .ok (.putfield 18, 3) := by decide +kernel
theorem dX0_init_26 : decode cX0_init 26 = .ok (.aload_n 0, 1) := by decide +kernel
theorem dX0_init_27 : decode cX0_init 27 = .ok (.iconst 0, 1) := by decide +kernel
theorem dX0_init_28 : decode cX0_init 28 = .ok (.putfield 22, 3) := by decide +kernel
theorem dX0_init_31 : decode cX0_init 31 = .ok (.return_, 1) := by decide +kernel
theorem dX0_find_0 : decode cX0_find 0 = .ok (.aload_n 0, 1) := by decide +kernel
theorem dX0_find_1 : decode cX0_find 1 = .ok (.aload_n 1, 1) := by decide +kernel
theorem dX0_find_2 : decode cX0_find 2 = .ok (.iload_n 2, 1) := by decide +kernel
theorem dX0_find_3 : decode cX0_find 3 = .ok (.invokevirtual 25, 3) := by decide +kernel
theorem dX0_find_6 : decode cX0_find 6 = .ok (.aload_n 0, 1) := by decide +kernel
theorem dX0_find_7 : decode cX0_find 7 = .ok (.iconst 0, 1) := by decide +kernel
theorem dX0_find_8 : decode cX0_find 8 = .ok (.putfield 18, 3) := by decide +kernel
theorem dX0_find_11 : decode cX0_find 11 = .ok (.aload_n 0, 1) := by decide +kernel
theorem dX0_find_12 : decode cX0_find 12 = .ok (.iconst 0, 1) := by decide +kernel
theorem dX0_find_13 : decode cX0_find 13 = .ok (.putfield 22, 3) := by decide +kernel
theorem dX0_find_16 : decode cX0_find 16 = .ok (.aload_n 0, 1) := by decide +kernel
theorem dX0_find_17 : decode cX0_find 17 = .ok (.aload_n 1, 1) := by decide +kernel
theorem dX0_find_18 : decode cX0_find 18 = .ok (.invokevirtual 29, 3) := by decide +kernel
theorem dX0_find_21 : decode cX0_find 21 = .ok (.istore_n 3, 1) := by decide +kernel
theorem dX0_find_22 : decode cX0_find 22 = .ok (.iload_n 3, 1) := by decide +kernel
theorem dX0_find_23 : decode cX0_find 23 = .ok (.iconst (-1), 1) := by decide +kernel
theorem dX0_find_24 : decode cX0_find 24 = .ok (.if_icmp .eq 22, 3) := by decide +kernel
theorem dX0_find_27 : decode cX0_find 27 = .ok (.aload_n 0, 1) := by decide +kernel
theorem dX0_find_28 : decode cX0_find 28 = .ok (.aload_n 0, 1) := by decide +kernel
theorem dX0_find_29 : decode cX0_find 29 = .ok (.aload_n 1, 1) := by decide +kernel
theorem dX0_find_30 : decode cX0_find 30 = .ok (.iload_n 3, 1) := by decide +kernel
theorem dX0_find_31 : decode cX0_find 31 = .ok (.iconst 0, 1) := by decide +kernel
theorem dX0_find_32 : decode cX0_find 32 = .ok (.invokestatic 33, 3) := by decide +kernel
theorem dX0_find_35 : decode cX0_find 35 = .ok (.iload_n 3, 1) := by decide +kernel
theorem dX0_find_36 : decode cX0_find 36 = .ok (.iconst 1, 1) := by decide +kernel
theorem dX0_find_37 : decode cX0_find 37 = .ok (.invokestatic 33, 3) := by decide +kernel
theorem dX0_find_40 : decode cX0_find 40 = .ok (.invokevirtual 37, 3) := by decide +kernel
theorem dX0_find_43 : decode cX0_find 43 = .ok (.putfield 22, 3) := by decide +kernel
theorem dX0_find_46 : decode cX0_find 46 = .ok (.iload_n 3, 1) := by decide +kernel
theorem dX0_find_47 : decode cX0_find 47 = .ok (.iconst (-1), 1) := by decide +kernel
theorem dX0_find_48 : decode cX0_find 48 = .ok (.if_icmp .eq 70, 3) := by decide +kernel
theorem dX0_find_51 : decode cX0_find 51 = .ok (.aload_n 0, 1) := by decide +kernel
theorem dX0_find_52 : decode cX0_find 52 = .ok (.getfield 18, 3) := by decide +kernel
theorem dX0_find_55 : decode cX0_find 55 = .ok (.bipush 48, 2) := by decide +kernel
theorem dX0_find_57 : decode cX0_find 57 = .ok (.if_icmp .ge 61, 3) := by decide +kernel
theorem dX0_find_60 : decode cX0_find 60 = .ok (.aload_n 0, 1) := by decide +kernel
theorem dX0_find_61 : decode cX0_find 61 = .ok (.getfield 15, 3) := by decide +kernel
theorem dX0_find_64 : decode cX0_find 64 = .ok (.aload_n 0, 1) := by decide +kernel
theorem dX0_find_65 : decode cX0_find 65 = .ok (.getfield 18, 3) := by decide +kernel
theorem dX0_find_68 : decode cX0_find 68 = .ok (.iload_n 3, 1) := by decide +kernel
theorem dX0_find_69 : decode cX0_find 69 = .ok (.iastore, 1) := by decide +kernel
theorem dX0_find_70 : decode cX0_find 70 = .ok (.aload_n 0, 1) := by decide +kernel
theorem dX0_find_71 : decode cX0_find 71 = .ok (.dup, 1) := by decide +kernel
theorem dX0_find_72 : decode cX0_find 72 = .ok (.getfield 18, 3) := by decide +kernel
theorem dX0_find_75 : decode cX0_find 75 = .ok (.iconst 1, 1) := by decide +kernel
theorem dX0_find_76 : decode cX0_find 76 = .ok (.iadd, 1) := by decide +kernel
theorem dX0_find_77 : decode cX0_find 77 = .ok (.putfield 18, 3) := by decide +kernel
theorem dX0_find_80 : decode cX0_find 80 = .ok (.iload_n 3, 1) := by decide +kernel
theorem dX0_find_81 : decode cX0_find 81 = .ok (.iconst 0, 1) := by decide +kernel
theorem dX0_find_82 : decode cX0_find 82 = .ok (.invokestatic 33, 3) := by decide +kernel
theorem dX0_find_85 : decode cX0_find 85 = .ok (.aload_n 1, 1) := by decide +kernel
theorem dX0_find_86 : decode cX0_find 86 = .ok (.invokevirtual 41, 3) := by decide +kernel
theorem dX0_find_89 : decode cX0_find 89 = .ok (.iadd, 1) := by decide +kernel
theorem dX0_find_90 : decode cX0_find 90 = .ok (.istore 4, 2) := by decide +kernel
theorem dX0_find_92 : decode cX0_find 92 = .ok (.iload_n 3, 1) := by decide +kernel
theorem dX0_find_93 : decode cX0_find 93 = .ok (.iconst 1, 1) := by decide +kernel
theorem dX0_find_94 : decode cX0_find 94 = .ok (.invokestatic 33, 3) := by decide +kernel
theorem dX0_find_97 : decode cX0_find 97 = .ok (.aload_n 1, 1) := by decide +kernel
theorem dX0_find_98 : decode cX0_find 98 = .ok (.invokevirtual 41, 3) := by decide +kernel
theorem dX0_find_101 : decode cX0_find 101 = .ok (.iadd, 1) := by decide +kernel
theorem dX0_find_102 : decode cX0_find 102 = .ok (.istore 5, 2) := by decide +kernel
theorem dX0_find_104 : decode cX0_find 104 = .ok (.aload_n 0, 1) := by decide +kernel
theorem dX0_find_105 : decode cX0_find 105 = .ok (.aload_n 1, 1) := by decide +kernel
theorem dX0_find_106 : decode cX0_find 106 = .ok (.iload_n 2, 1) := by decide +kernel
theorem dX0_find_107 : decode cX0_find 107 = .ok (.iload 4, 2) := by decide +kernel
theorem dX0_find_109 : decode cX0_find 109 = .ok (.iload 5, 2) := by decide +kernel
theorem dX0_find_111 : decode cX0_find 111 = .ok (.invokevirtual 47, 3) := by decide +kernel
theorem dX0_find_114 : decode cX0_find 114 = .ok (.istore_n 3, 1) := by decide +kernel
theorem dX0_find_115 : decode cX0_find 115 = .ok (.goto (-69), 3) := by decide +kernel
theorem dX0_find_118 : decode cX0_find 118 = .ok (.return_, 1) := by decide +kernel
theorem dX0_lookAhead_0 : decode cX0_lookAhead 0 = .ok (.aload_n 1, 1) := by decide +kernel
theorem dX0_lookAhead_1 : decode cX0_lookAhead 1 = .ok (.invokevirtual 51, 3) := by decide +kernel
theorem dX0_lookAhead_4 : decode cX0_lookAhead 4 = .ok (.istore_n 3, 1) := by decide +kernel
theorem dX0_lookAhead_5 : decode cX0_lookAhead 5 = .ok (.iload_n 3, 1) := by decide +kernel
theorem dX0_lookAhead_6 : decode cX0_lookAhead 6 = .ok (.ifCond .lt 47, 3) := by decide +kernel
theorem dX0_lookAhead_9 : decode cX0_lookAhead 9 = .ok (.aload_n 1, 1) := by decide +kernel
theorem dX0_lookAhead_10 : decode cX0_lookAhead 10 = .ok (.invokevirtual 54, 3) := by decide +kernel
theorem dX0_lookAhead_13 : decode cX0_lookAhead 13 = .ok (.istore 4, 2) := by decide +kernel
theorem dX0_lookAhead_15 : decode cX0_lookAhead 15 = .ok (.iload 4, 2) := by decide +kernel
theorem dX0_lookAhead_17 : decode cX0_lookAhead 17 = .ok (.ifCond .lt 30, 3) := by decide +kernel
theorem dX0_lookAhead_20 : decode cX0_lookAhead 20 = .ok (.aload_n 0, 1) := by decide +kernel
theorem dX0_lookAhead_21 : decode cX0_lookAhead 21 = .ok (.getfield 11, 3) := by decide +kernel
theorem dX0_lookAhead_24 : decode cX0_lookAhead 24 = .ok (.iload_n 3, 1) := by decide +kernel
theorem dX0_lookAhead_25 : decode cX0_lookAhead 25 = .ok (.bipush 49, 2) := by decide +kernel
theorem dX0_lookAhead_27 : decode cX0_lookAhead 27 = .ok (.imul, 1) := by decide +kernel
theorem dX0_lookAhead_28 : decode cX0_lookAhead 28 = .ok (.iload 4, 2) := by decide +kernel
theorem dX0_lookAhead_30 : decode cX0_lookAhead 30 = .ok (.iadd, 1) := by decide +kernel
theorem dX0_lookAhead_31 : decode cX0_lookAhead 31 = .ok (.aload_n 0, 1) := by decide +kernel
theorem dX0_lookAhead_32 : decode cX0_lookAhead 32 = .ok (.aload_n 1, 1) := by decide +kernel
theorem dX0_lookAhead_33 : decode cX0_lookAhead 33 = .ok (.iload_n 2, 1) := by decide +kernel
theorem dX0_lookAhead_34 : decode cX0_lookAhead 34 = .ok (.iload_n 3, 1) := by decide +kernel
theorem dX0_lookAhead_35 : decode cX0_lookAhead 35 = .ok (.iload 4, 2) := by decide +kernel
theorem dX0_lookAhead_37 : decode cX0_lookAhead 37 = .ok (.invokevirtual 57, 3) := by decide +kernel
theorem dX0_lookAhead_40 : decode cX0_lookAhead 40 = .ok (.iastore, 1) := by decide +kernel
theorem dX0_lookAhead_41 : decode cX0_lookAhead 41 = .ok (.iinc 4 (-1), 3) := by decide +kernel
theorem dX0_lookAhead_44 : decode cX0_lookAhead 44 = .ok (.goto (-29), 3) := by decide +kernel
theorem dX0_lookAhead_47 : decode cX0_lookAhead 47 = .ok (.iinc 3 (-1), 3) := by decide +kernel
theorem dX0_lookAhead_50 : decode cX0_lookAhead 50 = .ok (.goto (-45), 3) := by decide +kernel
theorem dX0_lookAhead_53 : decode cX0_lookAhead 53 = .ok (.return_, 1) := by decide +kernel
theorem dX0_mostFrom_0 : decode cX0_mostFrom 0 = .ok (.iload_n 3, 1) := by decide +kernel
theorem dX0_mostFrom_1 : decode cX0_mostFrom 1 = .ok (.aload_n 1, 1) := by decide +kernel
theorem dX0_mostFrom_2 : decode cX0_mostFrom 2 = .ok (.invokevirtual 51, 3) := by decide +kernel
theorem dX0_mostFrom_5 : decode cX0_mostFrom 5 = .ok (.if_icmp .eq 12, 3) := by decide +kernel
theorem dX0_mostFrom_8 : decode cX0_mostFrom 8 = .ok (.iload 4, 2) := by decide +kernel
theorem dX0_mostFrom_10 : decode cX0_mostFrom 10 = .ok (.aload_n 1, 1) := by decide +kernel
theorem dX0_mostFrom_11 : decode cX0_mostFrom 11 = .ok (.invokevirtual 54, 3) := by decide +kernel
theorem dX0_mostFrom_14 : decode cX0_mostFrom 14 = .ok (.if_icmp .ne 6, 3) := by decide +kernel
theorem dX0_mostFrom_17 : decode cX0_mostFrom 17 = .ok (.ldc 60, 2) := by decide +kernel
theorem dX0_mostFrom_19 : decode cX0_mostFrom 19 = .ok (.ireturn, 1) := by decide +kernel
theorem dX0_mostFrom_20 : decode cX0_mostFrom 20 = .ok (.aload_n 0, 1) := by decide +kernel
theorem dX0_mostFrom_21 : decode cX0_mostFrom 21 = .ok (.getfield 11, 3) := by decide +kernel
theorem dX0_mostFrom_24 : decode cX0_mostFrom 24 = .ok (.iload_n 3, 1) := by decide +kernel
theorem dX0_mostFrom_25 : decode cX0_mostFrom 25 = .ok (.iconst 1, 1) := by decide +kernel
theorem dX0_mostFrom_26 : decode cX0_mostFrom 26 = .ok (.iadd, 1) := by decide +kernel
theorem dX0_mostFrom_27 : decode cX0_mostFrom 27 = .ok (.bipush 49, 2) := by decide +kernel
theorem dX0_mostFrom_29 : decode cX0_mostFrom 29 = .ok (.imul, 1) := by decide +kernel
theorem dX0_mostFrom_30 : decode cX0_mostFrom 30 = .ok (.iload 4, 2) := by decide +kernel
theorem dX0_mostFrom_32 : decode cX0_mostFrom 32 = .ok (.iadd, 1) := by decide +kernel
theorem dX0_mostFrom_33 : decode cX0_mostFrom 33 = .ok (.iaload, 1) := by decide +kernel
theorem dX0_mostFrom_34 : decode cX0_mostFrom 34 = .ok (.aload_n 0, 1) := by decide +kernel
theorem dX0_mostFrom_35 : decode cX0_mostFrom 35 = .ok (.getfield 11, 3) := by decide +kernel
theorem dX0_mostFrom_38 : decode cX0_mostFrom 38 = .ok (.iload_n 3, 1) := by decide +kernel
theorem dX0_mostFrom_39 : decode cX0_mostFrom 39 = .ok (.bipush 49, 2) := by decide +kernel
theorem dX0_mostFrom_41 : decode cX0_mostFrom 41 = .ok (.imul, 1) := by decide +kernel
theorem dX0_mostFrom_42 : decode cX0_mostFrom 42 = .ok (.iload 4, 2) := by decide +kernel
theorem dX0_mostFrom_44 : decode cX0_mostFrom 44 = .ok (.iadd, 1) := by decide +kernel
theorem dX0_mostFrom_45 : decode cX0_mostFrom 45 = .ok (.iconst 1, 1) := by decide +kernel
theorem dX0_mostFrom_46 : decode cX0_mostFrom 46 = .ok (.iadd, 1) := by decide +kernel
theorem dX0_mostFrom_47 : decode cX0_mostFrom 47 = .ok (.iaload, 1) := by decide +kernel
theorem dX0_mostFrom_48 : decode cX0_mostFrom 48 = .ok (.invokestatic 61, 3) := by decide +kernel
theorem dX0_mostFrom_51 : decode cX0_mostFrom 51 = .ok (.iload_n 2, 1) := by decide +kernel
theorem dX0_mostFrom_52 : decode cX0_mostFrom 52 = .ok (.isub, 1) := by decide +kernel
theorem dX0_mostFrom_53 : decode cX0_mostFrom 53 = .ok (.istore 5, 2) := by decide +kernel
theorem dX0_mostFrom_55 : decode cX0_mostFrom 55 = .ok (.aload_n 1, 1) := by decide +kernel
theorem dX0_mostFrom_56 : decode cX0_mostFrom 56 = .ok (.iload_n 3, 1) := by decide +kernel
theorem dX0_mostFrom_57 : decode cX0_mostFrom 57 = .ok (.iload 4, 2) := by decide +kernel
theorem dX0_mostFrom_59 : decode cX0_mostFrom 59 = .ok (.invokevirtual 66, 3) := by decide +kernel
theorem dX0_mostFrom_62 : decode cX0_mostFrom 62 = .ok (.ifCond .eq 19, 3) := by decide +kernel
theorem dX0_mostFrom_65 : decode cX0_mostFrom 65 = .ok (.iload 5, 2) := by decide +kernel
theorem dX0_mostFrom_67 : decode cX0_mostFrom 67 = .ok (.aload_n 0, 1) := by decide +kernel
theorem dX0_mostFrom_68 : decode cX0_mostFrom 68 = .ok (.aload_n 1, 1) := by decide +kernel
theorem dX0_mostFrom_69 : decode cX0_mostFrom 69 = .ok (.iload_n 3, 1) := by decide +kernel
theorem dX0_mostFrom_70 : decode cX0_mostFrom 70 = .ok (.iload 4, 2) := by decide +kernel
theorem dX0_mostFrom_72 : decode cX0_mostFrom 72 = .ok (.invokevirtual 37, 3) := by decide +kernel
theorem dX0_mostFrom_75 : decode cX0_mostFrom 75 = .ok (.invokestatic 61, 3) := by decide +kernel
theorem dX0_mostFrom_78 : decode cX0_mostFrom 78 = .ok (.goto 5, 3) := by decide +kernel
theorem dX0_mostFrom_81 : decode cX0_mostFrom 81 = .ok (.iload 5, 2) := by decide +kernel
theorem dX0_mostFrom_83 : decode cX0_mostFrom 83 = .ok (.ireturn, 1) := by decide +kernel
theorem dX0_worthFrom_0 : decode cX0_worthFrom 0 = .ok (.aload_n 1, 1) := by decide +kernel
theorem dX0_worthFrom_1 : decode cX0_worthFrom 1 = .ok (.invokevirtual 41, 3) := by decide +kernel
theorem dX0_worthFrom_4 : decode cX0_worthFrom 4 = .ok (.istore 4, 2) := by decide +kernel
theorem dX0_worthFrom_6 : decode cX0_worthFrom 6 = .ok (.bipush 10, 2) := by decide +kernel
theorem dX0_worthFrom_8 : decode cX0_worthFrom 8 = .ok (.iload 4, 2) := by decide +kernel
theorem dX0_worthFrom_10 : decode cX0_worthFrom 10 = .ok (.imul, 1) := by decide +kernel
theorem dX0_worthFrom_11 : decode cX0_worthFrom 11 = .ok (.iconst 0, 1) := by decide +kernel
theorem dX0_worthFrom_12 : decode cX0_worthFrom 12 = .ok (.aload_n 0, 1) := by decide +kernel
theorem dX0_worthFrom_13 : decode cX0_worthFrom 13 = .ok (.getfield 11, 3) := by decide +kernel
theorem dX0_worthFrom_16 : decode cX0_worthFrom 16 = .ok (.iload_n 2, 1) := by decide +kernel
theorem dX0_worthFrom_17 : decode cX0_worthFrom 17 = .ok (.iload 4, 2) := by decide +kernel
theorem dX0_worthFrom_19 : decode cX0_worthFrom 19 = .ok (.iadd, 1) := by decide +kernel
theorem dX0_worthFrom_20 : decode cX0_worthFrom 20 = .ok (.bipush 49, 2) := by decide +kernel
theorem dX0_worthFrom_22 : decode cX0_worthFrom 22 = .ok (.imul, 1) := by decide +kernel
theorem dX0_worthFrom_23 : decode cX0_worthFrom 23 = .ok (.iload_n 3, 1) := by decide +kernel
theorem dX0_worthFrom_24 : decode cX0_worthFrom 24 = .ok (.iadd, 1) := by decide +kernel
theorem dX0_worthFrom_25 : decode cX0_worthFrom 25 = .ok (.iload 4, 2) := by decide +kernel
theorem dX0_worthFrom_27 : decode cX0_worthFrom 27 = .ok (.iadd, 1) := by decide +kernel
theorem dX0_worthFrom_28 : decode cX0_worthFrom 28 = .ok (.iaload, 1) := by decide +kernel
theorem dX0_worthFrom_29 : decode cX0_worthFrom 29 = .ok (.invokestatic 61, 3) := by decide +kernel
theorem dX0_worthFrom_32 : decode cX0_worthFrom 32 = .ok (.iadd, 1) := by decide +kernel
theorem dX0_worthFrom_33 : decode cX0_worthFrom 33 = .ok (.ireturn, 1) := by decide +kernel
theorem dX0_firstPair_0 : decode cX0_firstPair 0 = .ok (.iconst (-1), 1) := by decide +kernel
theorem dX0_firstPair_1 : decode cX0_firstPair 1 = .ok (.istore_n 2, 1) := by decide +kernel
theorem dX0_firstPair_2 : decode cX0_firstPair 2 = .ok (.iconst 0, 1) := by decide +kernel
theorem dX0_firstPair_3 : decode cX0_firstPair 3 = .ok (.istore_n 3, 1) := by decide +kernel
theorem dX0_firstPair_4 : decode cX0_firstPair 4 = .ok (.iconst 0, 1) := by decide +kernel
theorem dX0_firstPair_5 : decode cX0_firstPair 5 = .ok (.istore 4, 2) := by decide +kernel
theorem dX0_firstPair_7 : decode cX0_firstPair 7 = .ok (.iload 4, 2) := by decide +kernel
theorem dX0_firstPair_9 : decode cX0_firstPair 9 = .ok (.aload_n 1, 1) := by decide +kernel
theorem dX0_firstPair_10 : decode cX0_firstPair 10 = .ok (.invokevirtual 51, 3) := by decide +kernel
theorem dX0_firstPair_13 : decode cX0_firstPair 13 = .ok (.if_icmp .ge 69, 3) := by decide +kernel
theorem dX0_firstPair_16 : decode cX0_firstPair 16 = .ok (.iconst 0, 1) := by decide +kernel
theorem dX0_firstPair_17 : decode cX0_firstPair 17 = .ok (.istore 5, 2) := by decide +kernel
theorem dX0_firstPair_19 : decode cX0_firstPair 19 = .ok (.iload 5, 2) := by decide +kernel
theorem dX0_firstPair_21 : decode cX0_firstPair 21 = .ok (.aload_n 1, 1) := by decide +kernel
theorem dX0_firstPair_22 : decode cX0_firstPair 22 = .ok (.invokevirtual 54, 3) := by decide +kernel
theorem dX0_firstPair_25 : decode cX0_firstPair 25 = .ok (.if_icmp .ge 51, 3) := by decide +kernel
theorem dX0_firstPair_28 : decode cX0_firstPair 28 = .ok (.aload_n 1, 1) := by decide +kernel
theorem dX0_firstPair_29 : decode cX0_firstPair 29 = .ok (.iload 4, 2) := by decide +kernel
theorem dX0_firstPair_31 : decode cX0_firstPair 31 = .ok (.iload 5, 2) := by decide +kernel
theorem dX0_firstPair_33 : decode cX0_firstPair 33 = .ok (.invokevirtual 66, 3) := by decide +kernel
theorem dX0_firstPair_36 : decode cX0_firstPair 36 = .ok (.ifCond .eq 34, 3) := by decide +kernel
theorem dX0_firstPair_39 : decode cX0_firstPair 39 = .ok (.aload_n 0, 1) := by decide +kernel
theorem dX0_firstPair_40 : decode cX0_firstPair 40 = .ok (.aload_n 1, 1) := by decide +kernel
theorem dX0_firstPair_41 : decode cX0_firstPair 41 = .ok (.iload 4, 2) := by decide +kernel
theorem dX0_firstPair_43 : decode cX0_firstPair 43 = .ok (.iload 5, 2) := by decide +kernel
theorem dX0_firstPair_45 : decode cX0_firstPair 45 = .ok (.invokevirtual 37, 3) := by decide +kernel
theorem dX0_firstPair_48 : decode cX0_firstPair 48 = .ok (.iload_n 3, 1) := by decide +kernel
theorem dX0_firstPair_49 : decode cX0_firstPair 49 = .ok (.if_icmp .le 21, 3) := by decide +kernel
theorem dX0_firstPair_52 : decode cX0_firstPair 52 = .ok (.iload 4, 2) := by decide +kernel
theorem dX0_firstPair_54 : decode cX0_firstPair 54 = .ok (.iload 5, 2) := by decide +kernel
theorem dX0_firstPair_56 : decode cX0_firstPair 56 = .ok (.invokestatic 70, 3) := by decide +kernel
theorem dX0_firstPair_59 : decode cX0_firstPair 59 = .ok (.istore_n 2, 1) := by decide +kernel
theorem dX0_firstPair_60 : decode cX0_firstPair 60 = .ok (.aload_n 0, 1) := by decide +kernel
theorem dX0_firstPair_61 : decode cX0_firstPair 61 = .ok (.aload_n 1, 1) := by decide +kernel
theorem dX0_firstPair_62 : decode cX0_firstPair 62 = .ok (.iload 4, 2) := by decide +kernel
theorem dX0_firstPair_64 : decode cX0_firstPair 64 = .ok (.iload 5, 2) := by decide +kernel
theorem dX0_firstPair_66 : decode cX0_firstPair 66 = .ok (.invokevirtual 37, 3) := by decide +kernel
theorem dX0_firstPair_69 : decode cX0_firstPair 69 = .ok (.istore_n 3, 1) := by decide +kernel
theorem dX0_firstPair_70 : decode cX0_firstPair 70 = .ok (.iinc 5 1, 3) := by decide +kernel
theorem dX0_firstPair_73 : decode cX0_firstPair 73 = .ok (.goto (-54), 3) := by decide +kernel
theorem dX0_firstPair_76 : decode cX0_firstPair 76 = .ok (.iinc 4 1, 3) := by decide +kernel
theorem dX0_firstPair_79 : decode cX0_firstPair 79 = .ok (.goto (-72), 3) := by decide +kernel
theorem dX0_firstPair_82 : decode cX0_firstPair 82 = .ok (.iload_n 2, 1) := by decide +kernel
theorem dX0_firstPair_83 : decode cX0_firstPair 83 = .ok (.ireturn, 1) := by decide +kernel
theorem dX0_nextPair_0 : decode cX0_nextPair 0 = .ok (.aload_n 0, 1) := by decide +kernel
theorem dX0_nextPair_1 : decode cX0_nextPair 1 = .ok (.getfield 11, 3) := by decide +kernel
theorem dX0_nextPair_4 : decode cX0_nextPair 4 = .ok (.iload_n 3, 1) := by decide +kernel
theorem dX0_nextPair_5 : decode cX0_nextPair 5 = .ok (.bipush 49, 2) := by decide +kernel
theorem dX0_nextPair_7 : decode cX0_nextPair 7 = .ok (.imul, 1) := by decide +kernel
theorem dX0_nextPair_8 : decode cX0_nextPair 8 = .ok (.iload 4, 2) := by decide +kernel
theorem dX0_nextPair_10 : decode cX0_nextPair 10 = .ok (.iadd, 1) := by decide +kernel
theorem dX0_nextPair_11 : decode cX0_nextPair 11 = .ok (.iaload, 1) := by decide +kernel
theorem dX0_nextPair_12 : decode cX0_nextPair 12 = .ok (.istore 5, 2) := by decide +kernel
theorem dX0_nextPair_14 : decode cX0_nextPair 14 = .ok (.iload 5, 2) := by decide +kernel
theorem dX0_nextPair_16 : decode cX0_nextPair 16 = .ok (.ifCond .gt 5, 3) := by decide +kernel
theorem dX0_nextPair_19 : decode cX0_nextPair 19 = .ok (.iconst (-1), 1) := by decide +kernel
theorem dX0_nextPair_20 : decode cX0_nextPair 20 = .ok (.ireturn, 1) := by decide +kernel
theorem dX0_nextPair_21 : decode cX0_nextPair 21 = .ok (.iload_n 3, 1) := by decide +kernel
theorem dX0_nextPair_22 : decode cX0_nextPair 22 = .ok (.istore 6, 2) := by decide +kernel
theorem dX0_nextPair_24 : decode cX0_nextPair 24 = .ok (.iload 6, 2) := by decide +kernel
theorem dX0_nextPair_26 : decode cX0_nextPair 26 = .ok (.aload_n 1, 1) := by decide +kernel
theorem dX0_nextPair_27 : decode cX0_nextPair 27 = .ok (.invokevirtual 51, 3) := by decide +kernel
theorem dX0_nextPair_30 : decode cX0_nextPair 30 = .ok (.if_icmp .ge 78, 3) := by decide +kernel
theorem dX0_nextPair_33 : decode cX0_nextPair 33 = .ok (.iload 4, 2) := by decide +kernel
theorem dX0_nextPair_35 : decode cX0_nextPair 35 = .ok (.istore 7, 2) := by decide +kernel
theorem dX0_nextPair_37 : decode cX0_nextPair 37 = .ok (.iload 7, 2) := by decide +kernel
theorem dX0_nextPair_39 : decode cX0_nextPair 39 = .ok (.aload_n 1, 1) := by decide +kernel
theorem dX0_nextPair_40 : decode cX0_nextPair 40 = .ok (.invokevirtual 54, 3) := by decide +kernel
theorem dX0_nextPair_43 : decode cX0_nextPair 43 = .ok (.if_icmp .ge 59, 3) := by decide +kernel
theorem dX0_nextPair_46 : decode cX0_nextPair 46 = .ok (.iload_n 2, 1) := by decide +kernel
theorem dX0_nextPair_47 : decode cX0_nextPair 47 = .ok (.iload 6, 2) := by decide +kernel
theorem dX0_nextPair_49 : decode cX0_nextPair 49 = .ok (.iload_n 3, 1) := by decide +kernel
theorem dX0_nextPair_50 : decode cX0_nextPair 50 = .ok (.isub, 1) := by decide +kernel
theorem dX0_nextPair_51 : decode cX0_nextPair 51 = .ok (.iload 7, 2) := by decide +kernel
theorem dX0_nextPair_53 : decode cX0_nextPair 53 = .ok (.iadd, 1) := by decide +kernel
theorem dX0_nextPair_54 : decode cX0_nextPair 54 = .ok (.iload 4, 2) := by decide +kernel
theorem dX0_nextPair_56 : decode cX0_nextPair 56 = .ok (.isub, 1) := by decide +kernel
theorem dX0_nextPair_57 : decode cX0_nextPair 57 = .ok (.imul, 1) := by decide +kernel
theorem dX0_nextPair_58 : decode cX0_nextPair 58 = .ok (.istore 8, 2) := by decide +kernel
theorem dX0_nextPair_60 : decode cX0_nextPair 60 = .ok (.aload_n 1, 1) := by decide +kernel
theorem dX0_nextPair_61 : decode cX0_nextPair 61 = .ok (.iload 6, 2) := by decide +kernel
theorem dX0_nextPair_63 : decode cX0_nextPair 63 = .ok (.iload 7, 2) := by decide +kernel
theorem dX0_nextPair_65 : decode cX0_nextPair 65 = .ok (.invokevirtual 66, 3) := by decide +kernel
theorem dX0_nextPair_68 : decode cX0_nextPair 68 = .ok (.ifCond .eq 28, 3) := by decide +kernel
theorem dX0_nextPair_71 : decode cX0_nextPair 71 = .ok (.aload_n 0, 1) := by decide +kernel
theorem dX0_nextPair_72 : decode cX0_nextPair 72 = .ok (.aload_n 1, 1) := by decide +kernel
theorem dX0_nextPair_73 : decode cX0_nextPair 73 = .ok (.iload 6, 2) := by decide +kernel
theorem dX0_nextPair_75 : decode cX0_nextPair 75 = .ok (.iload 7, 2) := by decide +kernel
theorem dX0_nextPair_77 : decode cX0_nextPair 77 = .ok (.invokevirtual 37, 3) := by decide +kernel
theorem dX0_nextPair_80 : decode cX0_nextPair 80 = .ok (.iload 8, 2) := by decide +kernel
theorem dX0_nextPair_82 : decode cX0_nextPair 82 = .ok (.isub, 1) := by decide +kernel
theorem dX0_nextPair_83 : decode cX0_nextPair 83 = .ok (.iload 5, 2) := by decide +kernel
theorem dX0_nextPair_85 : decode cX0_nextPair 85 = .ok (.if_icmp .ne 11, 3) := by decide +kernel
theorem dX0_nextPair_88 : decode cX0_nextPair 88 = .ok (.iload 6, 2) := by decide +kernel
theorem dX0_nextPair_90 : decode cX0_nextPair 90 = .ok (.iload 7, 2) := by decide +kernel
theorem dX0_nextPair_92 : decode cX0_nextPair 92 = .ok (.invokestatic 70, 3) := by decide +kernel
theorem dX0_nextPair_95 : decode cX0_nextPair 95 = .ok (.ireturn, 1) := by decide +kernel
theorem dX0_nextPair_96 : decode cX0_nextPair 96 = .ok (.iinc 7 1, 3) := by decide +kernel
theorem dX0_nextPair_99 : decode cX0_nextPair 99 = .ok (.goto (-62), 3) := by decide +kernel
theorem dX0_nextPair_102 : decode cX0_nextPair 102 = .ok (.iinc 6 1, 3) := by decide +kernel
theorem dX0_nextPair_105 : decode cX0_nextPair 105 = .ok (.goto (-81), 3) := by decide +kernel
theorem dX0_nextPair_108 : decode cX0_nextPair 108 = .ok (.iconst (-1), 1) := by decide +kernel
theorem dX0_nextPair_109 : decode cX0_nextPair 109 = .ok (.ireturn, 1) := by decide +kernel
theorem dX0_total_0 : decode cX0_total 0 = .ok (.aload_n 0, 1) := by decide +kernel
theorem dX0_total_1 : decode cX0_total 1 = .ok (.getfield 22, 3) := by decide +kernel
theorem dX0_total_4 : decode cX0_total 4 = .ok (.ireturn, 1) := by decide +kernel
theorem dX0_size_0 : decode cX0_size 0 = .ok (.aload_n 0, 1) := by decide +kernel
theorem dX0_size_1 : decode cX0_size 1 = .ok (.getfield 18, 3) := by decide +kernel
theorem dX0_size_4 : decode cX0_size 4 = .ok (.ireturn, 1) := by decide +kernel
theorem dX0_pairAt_0 : decode cX0_pairAt 0 = .ok (.iload_n 1, 1) := by decide +kernel
theorem dX0_pairAt_1 : decode cX0_pairAt 1 = .ok (.ifCond .lt 20, 3) := by decide +kernel
theorem dX0_pairAt_4 : decode cX0_pairAt 4 = .ok (.iload_n 1, 1) := by decide +kernel
theorem dX0_pairAt_5 : decode cX0_pairAt 5 = .ok (.aload_n 0, 1) := by decide +kernel
theorem dX0_pairAt_6 : decode cX0_pairAt 6 = .ok (.getfield 18, 3) := by decide +kernel
theorem dX0_pairAt_9 : decode cX0_pairAt 9 = .ok (.if_icmp .ge 12, 3) := by decide +kernel
theorem dX0_pairAt_12 : decode cX0_pairAt 12 = .ok (.aload_n 0, 1) := by decide +kernel
theorem dX0_pairAt_13 : decode cX0_pairAt 13 = .ok (.getfield 15, 3) := by decide +kernel
theorem dX0_pairAt_16 : decode cX0_pairAt 16 = .ok (.iload_n 1, 1) := by decide +kernel
theorem dX0_pairAt_17 : decode cX0_pairAt 17 = .ok (.iaload, 1) := by decide +kernel
theorem dX0_pairAt_18 : decode cX0_pairAt 18 = .ok (.goto 4, 3) := by decide +kernel
theorem dX0_pairAt_21 : decode cX0_pairAt 21 = .ok (.iconst (-1), 1) := by decide +kernel
theorem dX0_pairAt_22 : decode cX0_pairAt 22 = .ok (.ireturn, 1) := by decide +kernel
