theorem dX5_init_0 : decode cX5_init 0 = .ok (.aload_n 0, 1) := by decide +kernel
theorem dX5_init_1 : decode cX5_init 1 = .ok (.invokespecial 1, 3) := by decide +kernel
theorem dX5_init_4 : decode cX5_init 4 = .ok (.aload_n 0, 1) := by decide +kernel
theorem dX5_init_5 : decode cX5_init 5 = .ok (.bipush 96, 2) := by decide +kernel
theorem dX5_init_7 : decode cX5_init 7 = .ok (.newarray .int, 2) := by decide +kernel
theorem dX5_init_9 : decode cX5_init 9 = .ok (.putfield 7, 3) := by decide +kernel
theorem dX5_init_12 : decode cX5_init 12 = .ok (.aload_n 0, 1) := by decide +kernel
theorem dX5_init_13 : decode cX5_init 13 = .ok (.iconst 2, 1) := by decide +kernel
theorem dX5_init_14 : decode cX5_init 14 = .ok (.newarray .int, 2) := by decide +kernel
theorem dX5_init_16 : decode cX5_init 16 = .ok (.putfield 13, 3) := by decide +kernel
theorem dX5_init_19 : decode cX5_init 19 = .ok (.aload_n 0, 1) := by decide +kernel
theorem dX5_init_20 : decode cX5_init 20 = .ok (.iconst 2, 1) := by decide +kernel
theorem dX5_init_21 : decode cX5_init 21 = .ok (.putfield 16, 3) := by decide +kernel
theorem dX5_init_24 : decode cX5_init 24 = .ok (.aload_n 0, 1) := by decide +kernel
theorem dX5_init_25 : decode cX5_init 25 = .ok (.iconst 1, 1) := by decide +kernel
theorem dX5_init_26 : decode cX5_init 26 = .ok (.putfield 20, 3) := by decide +kernel
theorem dX5_init_29 : decode cX5_init 29 = .ok (.aload_n 0, 1) := by decide +kernel
theorem dX5_init_30 : decode cX5_init 30 = .ok (.iconst 2, 1) := by decide +kernel
theorem dX5_init_31 : decode cX5_init 31 = .ok (.putfield 23, 3) := by decide +kernel
theorem dX5_init_34 : decode cX5_init 34 = .ok (.aload_n 0, 1) := by decide +kernel
theorem dX5_init_35 : decode cX5_init 35 = .ok (.iconst 1, 1) := by decide +kernel
theorem dX5_init_36 : decode cX5_init 36 = .ok (.putfield 26, 3) := by decide +kernel
theorem dX5_init_39 : decode cX5_init 39 = .ok (.aload_n 0, 1) := by decide +kernel
theorem dX5_init_40 : decode cX5_init 40 = .ok (.iconst 2, 1) := by decide +kernel
theorem dX5_init_41 : decode cX5_init 41 = .ok (.putfield 29, 3) := by decide +kernel
theorem dX5_init_44 : decode cX5_init 44 = .ok (.aload_n 0, 1) := by decide +kernel
theorem dX5_init_45 : decode cX5_init 45 = .ok (.bipush 6, 2) := by decide +kernel
theorem dX5_init_47 : decode cX5_init 47 = .ok (.putfield 32, 3) := by decide +kernel
theorem dX5_init_50 : decode cX5_init 50 = .ok (.aload_n 0, 1) := by decide +kernel
theorem dX5_init_51 : decode cX5_init 51 = .ok (.sipush 2304, 3) := by decide +kernel
theorem dX5_init_54 : decode cX5_init 54 = .ok (.newarray .int, 2) := by decide +kernel
theorem dX5_init_56 : decode cX5_init 56 = .ok (.putfield 35, 3) := by decide +kernel
theorem dX5_init_59 : decode cX5_init 59 = .ok (.aload_n 0, 1) := by decide +kernel
theorem dX5_init_60 : decode cX5_init 60 = .ok (.sipush 2304, 3) := by decide +kernel
theorem dX5_init_63 : decode cX5_init 63 = .ok (.newarray .int, 2) := by decide +kernel
theorem dX5_init_65 : decode cX5_init 65 = .ok (.putfield 38, 3) := by decide +kernel
theorem dX5_init_68 : decode cX5_init 68 = .ok (.aload_n 0, 1) := by decide +kernel
theorem dX5_init_69 : decode cX5_init 69 = .ok (.sipush 2304, 3) := by decide +kernel
theorem dX5_init_72 : decode cX5_init 72 = .ok (.newarray .int, 2) := by decide +kernel
theorem dX5_init_74 : decode cX5_init 74 = .ok (.putfield 41, 3) := by decide +kernel
theorem dX5_init_77 : decode cX5_init 77 = .ok (.aload_n 0, 1) := by decide +kernel
theorem dX5_init_78 : decode cX5_init 78 = .ok (.bipush 48, 2) := by decide +kernel
theorem dX5_init_80 : decode cX5_init 80 = .ok (.newarray .int, 2) := by decide +kernel
theorem dX5_init_82 : decode cX5_init 82 = .ok (.putfield 44, 3) := by decide +kernel
theorem dX5_init_85 : decode cX5_init 85 = .ok (.aload_n 0, 1) := by decide +kernel
theorem dX5_init_86 : decode cX5_init 86 = .ok (.sipush 2401, 3) := by decide +kernel
theorem dX5_init_89 : decode cX5_init 89 = .ok (.newarray .int, 2) := by decide +kernel
theorem dX5_init_91 : decode cX5_init 91 = .ok (.putfield 47, 3) := by decide +kernel
theorem dX5_init_94 : decode cX5_init 94 = .ok (.return_, 1) := by decide +kernel
theorem dX5_put_0 : decode cX5_put 0 = .ok (.iload_n 1, 1) := by decide +kernel
theorem dX5_put_1 : decode cX5_put 1 = .ok (.invokestatic 50, 3) := by decide +kernel
theorem dX5_put_4 : decode cX5_put 4 = .ok (.ifCond .eq 23, 3) := by decide +kernel
theorem dX5_put_7 : decode cX5_put 7 = .ok (.iload_n 2, 1) := by decide +kernel
theorem dX5_put_8 : decode cX5_put 8 = .ok (.ifCond .lt 19, 3) := by decide +kernel
theorem dX5_put_11 : decode cX5_put 11 = .ok (.iload_n 2, 1) := by decide +kernel
theorem dX5_put_12 : decode cX5_put 12 = .ok (.iconst 3, 1) := by decide +kernel
theorem dX5_put_13 : decode cX5_put 13 = .ok (.if_icmp .gt 14, 3) := by decide +kernel
theorem dX5_put_16 : decode cX5_put 16 = .ok (.aload_n 0, 1) := by decide +kernel
theorem dX5_put_17 : decode cX5_put 17 = .ok (.getfield 13, 3) := by decide +kernel
theorem dX5_put_20 : decode cX5_put 20 = .ok (.iload_n 1, 1) := by decide +kernel
theorem dX5_put_21 : decode cX5_put 21 = .ok (.iaload, 1) := by decide +kernel
theorem dX5_put_22 : decode cX5_put 22 = .ok (.bipush 48, 2) := by decide +kernel
theorem dX5_put_24 : decode cX5_put 24 = .ok (.if_icmp .ne 5, 3) := by decide +kernel
theorem dX5_put_27 : decode cX5_put 27 = .ok (.iconst (-1), 1) := by decide +kernel
theorem dX5_put_28 : decode cX5_put 28 = .ok (.ireturn, 1) := by decide +kernel
theorem dX5_put_29 : decode cX5_put 29 = .ok (.aload_n 0, 1) := by decide +kernel
theorem dX5_put_30 : decode cX5_put 30 = .ok (.getfield 7, 3) := by decide +kernel
theorem dX5_put_33 : decode cX5_put 33 = .ok (.bipush 48, 2) := by decide +kernel
theorem dX5_put_35 : decode cX5_put 35 = .ok (.iload_n 1, 1) := by decide +kernel
theorem dX5_put_36 : decode cX5_put 36 = .ok (.imul, 1) := by decide +kernel
theorem dX5_put_37 : decode cX5_put 37 = .ok (.aload_n 0, 1) := by decide +kernel
theorem dX5_put_38 : decode cX5_put 38 = .ok (.getfield 13, 3) := by decide +kernel
theorem dX5_put_41 : decode cX5_put 41 = .ok (.iload_n 1, 1) := by decide +kernel
theorem dX5_put_42 : decode cX5_put 42 = .ok (.iaload, 1) := by decide +kernel
theorem dX5_put_43 : decode cX5_put 43 = .ok (.iadd, 1) := by decide +kernel
theorem dX5_put_44 : decode cX5_put 44 = .ok (.iload_n 2, 1) := by decide +kernel
theorem dX5_put_45 : decode cX5_put 45 = .ok (.iastore, 1) := by decide +kernel
theorem dX5_put_46 : decode cX5_put 46 = .ok (.aload_n 0, 1) := by decide +kernel
theorem dX5_put_47 : decode cX5_put 47 = .ok (.getfield 13, 3) := by decide +kernel
theorem dX5_put_50 : decode cX5_put 50 = .ok (.iload_n 1, 1) := by decide +kernel
theorem dX5_put_51 : decode cX5_put 51 = .ok (.dup2, 1) := by decide +kernel
theorem dX5_put_52 : decode cX5_put 52 = .ok (.iaload, 1) := by decide +kernel
theorem dX5_put_53 : decode cX5_put 53 = .ok (.iconst 1, 1) := by decide +kernel
theorem dX5_put_54 : decode cX5_put 54 = .ok (.iadd, 1) := by decide +kernel
theorem dX5_put_55 : decode cX5_put 55 = .ok (.iastore, 1) := by decide +kernel
theorem dX5_put_56 : decode cX5_put 56 = .ok (.aload_n 0, 1) := by decide +kernel
theorem dX5_put_57 : decode cX5_put 57 = .ok (.iconst 0, 1) := by decide +kernel
theorem dX5_put_58 : decode cX5_put 58 = .ok (.putfield 54, 3) := by decide +kernel
theorem dX5_put_61 : decode cX5_put 61 = .ok (.aload_n 0, 1) := by decide +kernel
theorem dX5_put_62 : decode cX5_put 62 = .ok (.getfield 13, 3) := by decide +kernel
theorem dX5_put_65 : decode cX5_put 65 = .ok (.iload_n 1, 1) := by decide +kernel
theorem dX5_put_66 : decode cX5_put 66 = .ok (.iaload, 1) := by decide +kernel
theorem dX5_put_67 : decode cX5_put 67 = .ok (.ireturn, 1) := by decide +kernel
theorem dX5_isRow_0 : decode cX5_isRow 0 = .ok (.iload_n 0, 1) := by decide +kernel
theorem dX5_isRow_1 : decode cX5_isRow 1 = .ok (.ifCond .eq 8, 3) := by decide +kernel
theorem dX5_isRow_4 : decode cX5_isRow 4 = .ok (.iload_n 0, 1) := by decide +kernel
theorem dX5_isRow_5 : decode cX5_isRow 5 = .ok (.iconst 1, 1) := by decide +kernel
theorem dX5_isRow_6 : decode cX5_isRow 6 = .ok (.if_icmp .ne 7, 3) := by decide +kernel
theorem dX5_isRow_9 : decode cX5_isRow 9 = .ok (.iconst 1, 1) := by decide +kernel
theorem dX5_isRow_10 : decode cX5_isRow 10 = .ok (.goto 4, 3) := by decide +kernel
theorem dX5_isRow_13 : decode cX5_isRow 13 = .ok (.iconst 0, 1) := by decide +kernel
theorem dX5_isRow_14 : decode cX5_isRow 14 = .ok (.ireturn, 1) := by decide +kernel
theorem dX5_cut_0 : decode cX5_cut 0 = .ok (.iload_n 1, 1) := by decide +kernel
theorem dX5_cut_1 : decode cX5_cut 1 = .ok (.invokestatic 50, 3) := by decide +kernel
theorem dX5_cut_4 : decode cX5_cut 4 = .ok (.ifCond .eq 12, 3) := by decide +kernel
theorem dX5_cut_7 : decode cX5_cut 7 = .ok (.aload_n 0, 1) := by decide +kernel
theorem dX5_cut_8 : decode cX5_cut 8 = .ok (.getfield 13, 3) := by decide +kernel
theorem dX5_cut_11 : decode cX5_cut 11 = .ok (.iload_n 1, 1) := by decide +kernel
theorem dX5_cut_12 : decode cX5_cut 12 = .ok (.iaload, 1) := by decide +kernel
theorem dX5_cut_13 : decode cX5_cut 13 = .ok (.ifCond .ne 5, 3) := by decide +kernel
theorem dX5_cut_16 : decode cX5_cut 16 = .ok (.iconst (-1), 1) := by decide +kernel
theorem dX5_cut_17 : decode cX5_cut 17 = .ok (.ireturn, 1) := by decide +kernel
theorem dX5_cut_18 : decode cX5_cut 18 = .ok (.aload_n 0, 1) := by decide +kernel
theorem dX5_cut_19 : decode cX5_cut 19 = .ok (.getfield 13, 3) := by decide +kernel
theorem dX5_cut_22 : decode cX5_cut 22 = .ok (.iload_n 1, 1) := by decide +kernel
theorem dX5_cut_23 : decode cX5_cut 23 = .ok (.dup2, 1) := by decide +kernel
theorem dX5_cut_24 : decode cX5_cut 24 = .ok (.iaload, 1) := by decide +kernel
theorem dX5_cut_25 : decode cX5_cut 25 = .ok (.iconst 1, 1) := by decide +kernel
theorem dX5_cut_26 : decode cX5_cut 26 = .ok (.isub, 1) := by decide +kernel
theorem dX5_cut_27 : decode cX5_cut 27 = .ok (.iastore, 1) := by decide +kernel
theorem dX5_cut_28 : decode cX5_cut 28 = .ok (.aload_n 0, 1) := by decide +kernel
theorem dX5_cut_29 : decode cX5_cut 29 = .ok (.iconst 0, 1) := by decide +kernel
theorem dX5_cut_30 : decode cX5_cut 30 = .ok (.putfield 54, 3) := by decide +kernel
theorem dX5_cut_33 : decode cX5_cut 33 = .ok (.aload_n 0, 1) := by decide +kernel
theorem dX5_cut_34 : decode cX5_cut 34 = .ok (.getfield 7, 3) := by decide +kernel
theorem dX5_cut_37 : decode cX5_cut 37 = .ok (.bipush 48, 2) := by decide +kernel
theorem dX5_cut_39 : decode cX5_cut 39 = .ok (.iload_n 1, 1) := by decide +kernel
theorem dX5_cut_40 : decode cX5_cut 40 = .ok (.imul, 1) := by decide +kernel
theorem dX5_cut_41 : decode cX5_cut 41 = .ok (.aload_n 0, 1) := by decide +kernel
theorem dX5_cut_42 : decode cX5_cut 42 = .ok (.getfield 13, 3) := by decide +kernel
theorem dX5_cut_45 : decode cX5_cut 45 = .ok (.iload_n 1, 1) := by decide +kernel
theorem dX5_cut_46 : decode cX5_cut 46 = .ok (.iaload, 1) := by decide +kernel
theorem dX5_cut_47 : decode cX5_cut 47 = .ok (.iadd, 1) := by decide +kernel
theorem dX5_cut_48 : decode cX5_cut 48 = .ok (.iaload, 1) := by decide +kernel
theorem dX5_cut_49 : decode cX5_cut 49 = .ok (.ireturn, 1) := by decide +kernel
theorem dX5_letter_0 : decode cX5_letter 0 = .ok (.iload_n 1, 1) := by decide +kernel
theorem dX5_letter_1 : decode cX5_letter 1 = .ok (.invokestatic 50, 3) := by decide +kernel
theorem dX5_letter_4 : decode cX5_letter 4 = .ok (.ifCond .eq 31, 3) := by decide +kernel
theorem dX5_letter_7 : decode cX5_letter 7 = .ok (.iload_n 2, 1) := by decide +kernel
theorem dX5_letter_8 : decode cX5_letter 8 = .ok (.ifCond .lt 27, 3) := by decide +kernel
theorem dX5_letter_11 : decode cX5_letter 11 = .ok (.iload_n 2, 1) := by decide +kernel
theorem dX5_letter_12 : decode cX5_letter 12 = .ok (.aload_n 0, 1) := by decide +kernel
theorem dX5_letter_13 : decode cX5_letter 13 = .ok (.getfield 13, 3) := by decide +kernel
theorem dX5_letter_16 : decode cX5_letter 16 = .ok (.iload_n 1, 1) := by decide +kernel
theorem dX5_letter_17 : decode cX5_letter 17 = .ok (.iaload, 1) := by decide +kernel
theorem dX5_letter_18 : decode cX5_letter 18 = .ok (.if_icmp .ge 17, 3) := by decide +kernel
theorem dX5_letter_21 : decode cX5_letter 21 = .ok (.aload_n 0, 1) := by decide +kernel
theorem dX5_letter_22 : decode cX5_letter 22 = .ok (.getfield 7, 3) := by decide +kernel
theorem dX5_letter_25 : decode cX5_letter 25 = .ok (.bipush 48, 2) := by decide +kernel
theorem dX5_letter_27 : decode cX5_letter 27 = .ok (.iload_n 1, 1) := by decide +kernel
theorem dX5_letter_28 : decode cX5_letter 28 = .ok (.imul, 1) := by decide +kernel
theorem dX5_letter_29 : decode cX5_letter 29 = .ok (.iload_n 2, 1) := by decide +kernel
theorem dX5_letter_30 : decode cX5_letter 30 = .ok (.iadd, 1) := by decide +kernel
theorem dX5_letter_31 : decode cX5_letter 31 = .ok (.iaload, 1) := by decide +kernel
theorem dX5_letter_32 : decode cX5_letter 32 = .ok (.goto 4, 3) := by decide +kernel
theorem dX5_letter_35 : decode cX5_letter 35 = .ok (.iconst (-1), 1) := by decide +kernel
theorem dX5_letter_36 : decode cX5_letter 36 = .ok (.ireturn, 1) := by decide +kernel
theorem dX5_seeds_0 : decode cX5_seeds 0 = .ok (.iload_n 1, 1) := by decide +kernel
theorem dX5_seeds_1 : decode cX5_seeds 1 = .ok (.iconst 1, 1) := by decide +kernel
theorem dX5_seeds_2 : decode cX5_seeds 2 = .ok (.if_icmp .lt 9, 3) := by decide +kernel
theorem dX5_seeds_5 : decode cX5_seeds 5 = .ok (.iload_n 1, 1) := by decide +kernel
theorem dX5_seeds_6 : decode cX5_seeds 6 = .ok (.bipush 6, 2) := by decide +kernel
theorem dX5_seeds_8 : decode cX5_seeds 8 = .ok (.if_icmp .le 5, 3) := by decide +kernel
theorem dX5_seeds_11 : decode cX5_seeds 11 = .ok (.iconst 0, 1) := by decide +kernel
theorem dX5_seeds_12 : decode cX5_seeds 12 = .ok (.ireturn, 1) := by decide +kernel
theorem dX5_seeds_13 : decode cX5_seeds 13 = .ok (.aload_n 0, 1) := by decide +kernel
theorem dX5_seeds_14 : decode cX5_seeds 14 = .ok (.iload_n 1, 1) := by decide +kernel
theorem dX5_seeds_15 : decode cX5_seeds 15 = .ok (.putfield 16, 3) := by decide +kernel
theorem dX5_seeds_18 : decode cX5_seeds 18 = .ok (.aload_n 0, 1) := by decide +kernel
theorem dX5_seeds_19 : decode cX5_seeds 19 = .ok (.iconst 0, 1) := by decide +kernel
theorem dX5_seeds_20 : decode cX5_seeds 20 = .ok (.putfield 54, 3) := by decide +kernel
theorem dX5_seeds_23 : decode cX5_seeds 23 = .ok (.iconst 1, 1) := by decide +kernel
theorem dX5_seeds_24 : decode cX5_seeds 24 = .ok (.ireturn, 1) := by decide +kernel
theorem dX5_penalty_0 : decode cX5_penalty 0 = .ok (.iload_n 1, 1) := by decide +kernel
theorem dX5_penalty_1 : decode cX5_penalty 1 = .ok (.ifCond .lt 9, 3) := by decide +kernel
theorem dX5_penalty_4 : decode cX5_penalty 4 = .ok (.iload_n 1, 1) := by decide +kernel
theorem dX5_penalty_5 : decode cX5_penalty 5 = .ok (.bipush 9, 2) := by decide +kernel
theorem dX5_penalty_7 : decode cX5_penalty 7 = .ok (.if_icmp .le 5, 3) := by decide +kernel
theorem dX5_penalty_10 : decode cX5_penalty 10 = .ok (.iconst 0, 1) := by decide +kernel
theorem dX5_penalty_11 : decode cX5_penalty 11 = .ok (.ireturn, 1) := by decide +kernel
theorem dX5_penalty_12 : decode cX5_penalty 12 = .ok (.aload_n 0, 1) := by decide +kernel
theorem dX5_penalty_13 : decode cX5_penalty 13 = .ok (.iload_n 1, 1) := by decide +kernel
theorem dX5_penalty_14 : decode cX5_penalty 14 = .ok (.putfield 20, 3) := by decide +kernel
theorem dX5_penalty_17 : decode cX5_penalty 17 = .ok (.aload_n 0, 1) := by decide +kernel
theorem dX5_penalty_18 : decode cX5_penalty 18 = .ok (.iconst 0, 1) := by decide +kernel
theorem dX5_penalty_19 : decode cX5_penalty 19 = .ok (.putfield 54, 3) := by decide +kernel
theorem dX5_penalty_22 : decode cX5_penalty 22 = .ok (.iconst 1, 1) := by decide +kernel
theorem dX5_penalty_23 : decode cX5_penalty 23 = .ok (.ireturn, 1) := by decide +kernel
theorem dX5_scores_0 : decode cX5_scores 0 = .ok (.iload_n 1, 1) := by decide +kernel
theorem dX5_scores_1 : decode cX5_scores 1 = .ok (.iconst 1, 1) := by decide +kernel
theorem dX5_scores_2 : decode cX5_scores 2 = .ok (.if_icmp .lt 42, 3) := by decide +kernel
theorem dX5_scores_5 : decode cX5_scores 5 = .ok (.iload_n 1, 1) := by decide +kernel
theorem dX5_scores_6 : decode cX5_scores 6 = .ok (.bipush 9, 2) := by decide +kernel
theorem dX5_scores_8 : decode cX5_scores 8 = .ok (.if_icmp .gt 36, 3) := by decide +kernel
theorem dX5_scores_11 : decode cX5_scores 11 = .ok (.iload_n 2, 1) := by decide +kernel
theorem dX5_scores_12 : decode cX5_scores 12 = .ok (.ifCond .lt 32, 3) := by decide +kernel
theorem dX5_scores_15 : decode cX5_scores 15 = .ok (.iload_n 2, 1) := by decide +kernel
theorem dX5_scores_16 : decode cX5_scores 16 = .ok (.bipush 9, 2) := by decide +kernel
theorem dX5_scores_18 : decode cX5_scores 18 = .ok (.if_icmp .gt 26, 3) := by decide +kernel
theorem dX5_scores_21 : decode cX5_scores 21 = .ok (.iload_n 3, 1) := by decide +kernel
theorem dX5_scores_22 : decode cX5_scores 22 = .ok (.iconst 1, 1) := by decide +kernel
theorem dX5_scores_23 : decode cX5_scores 23 = .ok (.if_icmp .lt 21, 3) := by decide +kernel
theorem dX5_scores_26 : decode cX5_scores 26 = .ok (.iload_n 3, 1) := by decide +kernel
theorem dX5_scores_27 : decode cX5_scores 27 = .ok (.bipush 9, 2) := by decide +kernel
theorem dX5_scores_29 : decode cX5_scores 29 = .ok (.if_icmp .gt 15, 3) := by decide +kernel
theorem dX5_scores_32 : decode cX5_scores 32 = .ok (.iload 4, 2) := by decide +kernel
theorem dX5_scores_34 : decode cX5_scores 34 = .ok (.ifCond .lt 10, 3) := by decide +kernel
theorem dX5_scores_37 : decode cX5_scores 37 = .ok (.iload 4, 2) := by decide +kernel
theorem dX5_scores_39 : decode cX5_scores 39 = .ok (.bipush 99, 2) := by decide +kernel
theorem dX5_scores_41 : decode cX5_scores 41 = .ok (.if_icmp .le 5, 3) := by decide +kernel
theorem dX5_scores_44 : decode cX5_scores 44 = .ok (.iconst 0, 1) := by decide +kernel
theorem dX5_scores_45 : decode cX5_scores 45 = .ok (.ireturn, 1) := by decide +kernel
theorem dX5_scores_46 : decode cX5_scores 46 = .ok (.aload_n 0, 1) := by decide +kernel
theorem dX5_scores_47 : decode cX5_scores 47 = .ok (.iload_n 1, 1) := by decide +kernel
theorem dX5_scores_48 : decode cX5_scores 48 = .ok (.putfield 23, 3) := by decide +kernel
theorem dX5_scores_51 : decode cX5_scores 51 = .ok (.aload_n 0, 1) := by decide +kernel
theorem dX5_scores_52 : decode cX5_scores 52 = .ok (.iload_n 2, 1) := by decide +kernel
theorem dX5_scores_53 : decode cX5_scores 53 = .ok (.putfield 26, 3) := by decide +kernel
theorem dX5_scores_56 : decode cX5_scores 56 = .ok (.aload_n 0, 1) := by decide +kernel
theorem dX5_scores_57 : decode cX5_scores 57 = .ok (.iload_n 3, 1) := by decide +kernel
theorem dX5_scores_58 : decode cX5_scores 58 = .ok (.putfield 29, 3) := by decide +kernel
theorem dX5_scores_61 : decode cX5_scores 61 = .ok (.aload_n 0, 1) := by decide +kernel
theorem dX5_scores_62 : decode cX5_scores 62 = .ok (.iload 4, 2) := by decide +kernel
theorem dX5_scores_64 : decode cX5_scores 64 = .ok (.putfield 32, 3) := by decide +kernel
theorem dX5_scores_67 : decode cX5_scores 67 = .ok (.iconst 1, 1) := by decide +kernel
theorem dX5_scores_68 : decode cX5_scores 68 = .ok (.ireturn, 1) := by decide +kernel
theorem dX5_anchors_0 : decode cX5_anchors 0 = .ok (.aload_n 0, 1) := by decide +kernel
theorem dX5_anchors_1 : decode cX5_anchors 1 = .ok (.invokevirtual 75, 3) := by decide +kernel
theorem dX5_anchors_4 : decode cX5_anchors 4 = .ok (.aload_n 0, 1) := by decide +kernel
theorem dX5_anchors_5 : decode cX5_anchors 5 = .ok (.getfield 58, 3) := by decide +kernel
theorem dX5_anchors_8 : decode cX5_anchors 8 = .ok (.ireturn, 1) := by decide +kernel
theorem dX5_learn_0 : decode cX5_learn 0 = .ok (.aload_n 0, 1) := by decide +kernel
theorem dX5_learn_1 : decode cX5_learn 1 = .ok (.getfield 54, 3) := by decide +kernel
theorem dX5_learn_4 : decode cX5_learn 4 = .ok (.ifCond .eq 4, 3) := by decide +kernel
theorem dX5_learn_7 : decode cX5_learn 7 = .ok (.return_, 1) := by decide +kernel
theorem dX5_learn_8 : decode cX5_learn 8 = .ok (.aload_n 0, 1) := by decide +kernel
theorem dX5_learn_9 : decode cX5_learn 9 = .ok (.iconst 1, 1) := by decide +kernel
theorem dX5_learn_10 : decode cX5_learn 10 = .ok (.putfield 54, 3) := by decide +kernel
theorem dX5_learn_13 : decode cX5_learn 13 = .ok (.aload_n 0, 1) := by decide +kernel
theorem dX5_learn_14 : decode cX5_learn 14 = .ok (.iconst 0, 1) := by decide +kernel
theorem dX5_learn_15 : decode cX5_learn 15 = .ok (.putfield 58, 3) := by decide +kernel
theorem dX5_learn_18 : decode cX5_learn 18 = .ok (.iconst 0, 1) := by decide +kernel
theorem dX5_learn_19 : decode cX5_learn 19 = .ok (.istore_n 1, 1) := by decide +kernel
theorem dX5_learn_20 : decode cX5_learn 20 = .ok (.iload_n 1, 1) := by decide +kernel
theorem dX5_learn_21 : decode cX5_learn 21 = .ok (.aload_n 0, 1) := by decide +kernel
theorem dX5_learn_22 : decode cX5_learn 22 = .ok (.getfield 13, 3) := by decide +kernel
theorem dX5_learn_25 : decode cX5_learn 25 = .ok (.iconst 0, 1) := by decide +kernel
theorem dX5_learn_26 : decode cX5_learn 26 = .ok (.iaload, 1) := by decide +kernel
theorem dX5_learn_27 : decode cX5_learn 27 = .ok (.if_icmp .ge 66, 3) := by decide +kernel
theorem dX5_learn_30 : decode cX5_learn 30 = .ok (.iconst 0, 1) := by decide +kernel
theorem dX5_learn_31 : decode cX5_learn 31 = .ok (.istore_n 2, 1) := by decide +kernel
theorem dX5_learn_32 : decode cX5_learn 32 = .ok (.iload_n 2, 1) := by decide +kernel
theorem dX5_learn_33 : decode cX5_learn 33 = .ok (.aload_n 0, 1) := by decide +kernel
theorem dX5_learn_34 : decode cX5_learn 34 = .ok (.getfield 13, 3) := by decide +kernel
theorem dX5_learn_37 : decode cX5_learn 37 = .ok (.iconst 1, 1) := by decide +kernel
theorem dX5_learn_38 : decode cX5_learn 38 = .ok (.iaload, 1) := by decide +kernel
theorem dX5_learn_39 : decode cX5_learn 39 = .ok (.if_icmp .ge 48, 3) := by decide +kernel
theorem dX5_learn_42 : decode cX5_learn 42 = .ok (.aload_n 0, 1) := by decide +kernel
theorem dX5_learn_43 : decode cX5_learn 43 = .ok (.iload_n 1, 1) := by decide +kernel
theorem dX5_learn_44 : decode cX5_learn 44 = .ok (.iload_n 2, 1) := by decide +kernel
theorem dX5_learn_45 : decode cX5_learn 45 = .ok (.invokevirtual 61, 3) := by decide +kernel
theorem dX5_learn_48 : decode cX5_learn 48 = .ok (.ifCond .eq 33, 3) := by decide +kernel
theorem dX5_learn_51 : decode cX5_learn 51 = .ok (.aload_n 0, 1) := by decide +kernel
theorem dX5_learn_52 : decode cX5_learn 52 = .ok (.getfield 35, 3) := by decide +kernel
theorem dX5_learn_55 : decode cX5_learn 55 = .ok (.aload_n 0, 1) := by decide +kernel
theorem dX5_learn_56 : decode cX5_learn 56 = .ok (.getfield 58, 3) := by decide +kernel
theorem dX5_learn_59 : decode cX5_learn 59 = .ok (.iload_n 1, 1) := by decide +kernel
theorem dX5_learn_60 : decode cX5_learn 60 = .ok (.iastore, 1) := by decide +kernel
theorem dX5_learn_61 : decode cX5_learn 61 = .ok (.aload_n 0, 1) := by decide +kernel
theorem dX5_learn_62 : decode cX5_learn 62 = .ok (.getfield 38, 3) := by decide +kernel
theorem dX5_learn_65 : decode cX5_learn 65 = .ok (.aload_n 0, 1) := by decide +kernel
theorem dX5_learn_66 : decode cX5_learn 66 = .ok (.getfield 58, 3) := by decide +kernel
theorem dX5_learn_69 : decode cX5_learn 69 = .ok (.iload_n 2, 1) := by decide +kernel
theorem dX5_learn_70 : decode cX5_learn 70 = .ok (.iastore, 1) := by decide +kernel
theorem dX5_learn_71 : decode cX5_learn 71 = .ok (.aload_n 0, 1) := by decide +kernel
theorem dX5_learn_72 : decode cX5_learn 72 = .ok (.dup, 1) := by decide +kernel
theorem dX5_learn_73 : decode cX5_learn 73 = .ok (.getfield 58, 3) := by decide +kernel
theorem dX5_learn_76 : decode cX5_learn 76 = .ok (.iconst 1, 1) := by decide +kernel
theorem dX5_learn_77 : decode cX5_learn 77 = .ok (.iadd, 1) := by decide +kernel
theorem dX5_learn_78 : decode cX5_learn 78 = .ok (.putfield 58, 3) := by decide +kernel
theorem dX5_learn_81 : decode cX5_learn 81 = .ok (.iinc 2 1, 3) := by decide +kernel
theorem dX5_learn_84 : decode cX5_learn 84 = .ok (.goto (-52), 3) := by decide +kernel
theorem dX5_learn_87 : decode cX5_learn 87 = .ok (.iinc 1 1, 3) := by decide +kernel
theorem dX5_learn_90 : decode cX5_learn 90 = .ok (.goto (-70), 3) := by decide +kernel
theorem dX5_learn_93 : decode cX5_learn 93 = .ok (.aload_n 0, 1) := by decide +kernel
theorem dX5_learn_94 : decode cX5_learn 94 = .ok (.iconst 0, 1) := by decide +kernel
theorem dX5_learn_95 : decode cX5_learn 95 = .ok (.putfield 65, 3) := by decide +kernel
theorem dX5_learn_98 : decode cX5_learn 98 = .ok (.aload_n 0, 1) := by decide +kernel
theorem dX5_learn_99 : decode cX5_learn 99 = .ok (.getfield 58, 3) := by decide +kernel
theorem dX5_learn_102 : decode cX5_learn 102 = .ok (.iconst 1, 1) := by decide +kernel
theorem dX5_learn_103 : decode cX5_learn 103 = .ok (.isub, 1) := by decide +kernel
theorem dX5_learn_104 : decode cX5_learn 104 = .ok (.istore_n 1, 1) := by decide +kernel
theorem dX5_learn_105 : decode cX5_learn 105 = .ok (.iload_n 1, 1) := by decide +kernel
theorem dX5_learn_106 : decode cX5_learn 106 = .ok (.ifCond .lt 120, 3) := by decide +kernel
theorem dX5_learn_109 : decode cX5_learn 109 = .ok (.iconst 0, 1) := by decide +kernel
theorem dX5_learn_110 : decode cX5_learn 110 = .ok (.istore_n 2, 1) := by decide +kernel
theorem dX5_learn_111 : decode cX5_learn 111 = .ok (.iload_n 1, 1) := by decide +kernel
theorem dX5_learn_112 : decode cX5_learn 112 = .ok (.iconst 1, 1) := by decide +kernel
theorem dX5_learn_113 : decode cX5_learn 113 = .ok (.iadd, 1) := by decide +kernel
theorem dX5_learn_114 : decode cX5_learn 114 = .ok (.istore_n 3, 1) := by decide +kernel
theorem dX5_learn_115 : decode cX5_learn 115 = .ok (.iload_n 3, 1) := by decide +kernel
theorem dX5_learn_116 : decode cX5_learn 116 = .ok (.aload_n 0, 1) := by decide +kernel
theorem dX5_learn_117 : decode cX5_learn 117 = .ok (.getfield 58, 3) := by decide +kernel
theorem dX5_learn_120 : decode cX5_learn 120 = .ok (.if_icmp .ge 55, 3) := by decide +kernel
theorem dX5_learn_123 : decode cX5_learn 123 = .ok (.aload_n 0, 1) := by decide +kernel
theorem dX5_learn_124 : decode cX5_learn 124 = .ok (.iload_n 1, 1) := by decide +kernel
theorem dX5_learn_125 : decode cX5_learn 125 = .ok (.iload_n 3, 1) := by decide +kernel
theorem dX5_learn_126 : decode cX5_learn 126 = .ok (.invokevirtual 68, 3) := by decide +kernel
theorem dX5_learn_129 : decode cX5_learn 129 = .ok (.istore 4, 2) := by decide +kernel
theorem dX5_learn_131 : decode cX5_learn 131 = .ok (.iload 4, 2) := by decide +kernel
theorem dX5_learn_133 : decode cX5_learn 133 = .ok (.ifCond .ge 7, 3) := by decide +kernel
theorem dX5_learn_136 : decode cX5_learn 136 = .ok (.iconst 0, 1) := by decide +kernel
theorem dX5_learn_137 : decode cX5_learn 137 = .ok (.goto 17, 3) := by decide +kernel
theorem dX5_learn_140 : decode cX5_learn 140 = .ok (.aload_n 0, 1) := by decide +kernel
theorem dX5_learn_141 : decode cX5_learn 141 = .ok (.getfield 41, 3) := by decide +kernel
theorem dX5_learn_144 : decode cX5_learn 144 = .ok (.iload_n 3, 1) := by decide +kernel
theorem dX5_learn_145 : decode cX5_learn 145 = .ok (.iaload, 1) := by decide +kernel
theorem dX5_learn_146 : decode cX5_learn 146 = .ok (.aload_n 0, 1) := by decide +kernel
theorem dX5_learn_147 : decode cX5_learn 147 = .ok (.getfield 20, 3) := by decide +kernel
theorem dX5_learn_150 : decode cX5_learn 150 = .ok (.iload 4, 2) := by decide +kernel
theorem dX5_learn_152 : decode cX5_learn 152 = .ok (.imul, 1) := by decide +kernel
theorem dX5_learn_153 : decode cX5_learn 153 = .ok (.isub, 1) := by decide +kernel
theorem dX5_learn_154 : decode cX5_learn 154 = .ok (.istore 5, 2) := by decide +kernel
theorem dX5_learn_156 : decode cX5_learn 156 = .ok (.iload 5, 2) := by decide +kernel
theorem dX5_learn_158 : decode cX5_learn 158 = .ok (.iload_n 2, 1) := by decide +kernel
theorem dX5_learn_159 : decode cX5_learn 159 = .ok (.if_icmp .le 8, 3) := by decide +kernel
theorem dX5_learn_162 : decode cX5_learn 162 = .ok (.iload 5, 2) := by decide +kernel
theorem dX5_learn_164 : decode cX5_learn 164 = .ok (.goto 4, 3) := by decide +kernel
theorem dX5_learn_167 : decode cX5_learn 167 = .ok (.iload_n 2, 1) := by decide +kernel
theorem dX5_learn_168 : decode cX5_learn 168 = .ok (.istore_n 2, 1) := by decide +kernel
theorem dX5_learn_169 : decode cX5_learn 169 = .ok (.iinc 3 1, 3) := by decide +kernel
theorem dX5_learn_172 : decode cX5_learn 172 = .ok (.goto (-57), 3) := by decide +kernel
theorem dX5_learn_175 : decode cX5_learn 175 = .ok (.aload_n 0, 1) := by decide +kernel
theorem dX5_learn_176 : decode cX5_learn 176 = .ok (.getfield 41, 3) := by decide +kernel
theorem dX5_learn_179 : decode cX5_learn 179 = .ok (.iload_n 1, 1) := by decide +kernel
theorem dX5_learn_180 : decode cX5_learn 180 = .ok (.bipush 10, 2) := by decide +kernel
theorem dX5_learn_182 : decode cX5_learn 182 = .ok (.aload_n 0, 1) := by decide +kernel
theorem dX5_learn_183 : decode cX5_learn 183 = .ok (.getfield 16, 3) := by decide +kernel
theorem dX5_learn_186 : decode cX5_learn 186 = .ok (.imul, 1) := by decide +kernel
theorem dX5_learn_187 : decode cX5_learn 187 = .ok (.iload_n 2, 1) := by decide +kernel
theorem dX5_learn_188 : decode cX5_learn 188 = .ok (.iadd, 1) := by decide +kernel
theorem dX5_learn_189 : decode cX5_learn 189 = .ok (.iastore, 1) := by decide +kernel
theorem dX5_learn_190 : decode cX5_learn 190 = .ok (.aload_n 0, 1) := by decide +kernel
theorem dX5_learn_191 : decode cX5_learn 191 = .ok (.aload_n 0, 1) := by decide +kernel
theorem dX5_learn_192 : decode cX5_learn 192 = .ok (.getfield 41, 3) := by decide +kernel
theorem dX5_learn_195 : decode cX5_learn 195 = .ok (.iload_n 1, 1) := by decide +kernel
theorem dX5_learn_196 : decode cX5_learn 196 = .ok (.iaload, 1) := by decide +kernel
theorem dX5_learn_197 : decode cX5_learn 197 = .ok (.aload_n 0, 1) := by decide +kernel
theorem dX5_learn_198 : decode cX5_learn 198 = .ok (.getfield 65, 3) := by decide +kernel
theorem dX5_learn_201 : decode cX5_learn 201 = .ok (.if_icmp .le 12, 3) := by decide +kernel
theorem dX5_learn_204 : decode cX5_learn 204 = .ok (.aload_n 0, 1) := by decide +kernel
theorem dX5_learn_205 : decode cX5_learn 205 = .ok (.getfield 41, 3) := by decide +kernel
theorem dX5_learn_208 : decode cX5_learn 208 = .ok (.iload_n 1, 1) := by decide +kernel
theorem dX5_learn_209 : decode cX5_learn 209 = .ok (.iaload, 1) := by decide +kernel
theorem dX5_learn_210 : decode cX5_learn 210 = .ok (.goto 7, 3) := by decide +kernel
theorem dX5_learn_213 : decode cX5_learn 213 = .ok (.aload_n 0, 1) := by decide +kernel
theorem dX5_learn_214 : decode cX5_learn 214 = .ok (.getfield 65, 3) := by decide +kernel
theorem dX5_learn_217 : decode cX5_learn 217 = .ok (.putfield 65, 3) := by decide +kernel
theorem dX5_learn_220 : decode cX5_learn 220 = .ok (.iinc 1 (-1), 3) := by decide +kernel
theorem dX5_learn_223 : decode cX5_learn 223 = .ok (.goto (-118), 3) := by decide +kernel
theorem dX5_learn_226 : decode cX5_learn 226 = .ok (.aload_n 0, 1) := by decide +kernel
theorem dX5_learn_227 : decode cX5_learn 227 = .ok (.iconst 0, 1) := by decide +kernel
theorem dX5_learn_228 : decode cX5_learn 228 = .ok (.putfield 72, 3) := by decide +kernel
theorem dX5_learn_231 : decode cX5_learn 231 = .ok (.aload_n 0, 1) := by decide +kernel
theorem dX5_learn_232 : decode cX5_learn 232 = .ok (.getfield 65, 3) := by decide +kernel
theorem dX5_learn_235 : decode cX5_learn 235 = .ok (.istore_n 1, 1) := by decide +kernel
theorem dX5_learn_236 : decode cX5_learn 236 = .ok (.iconst (-1), 1) := by decide +kernel
theorem dX5_learn_237 : decode cX5_learn 237 = .ok (.istore_n 2, 1) := by decide +kernel
theorem dX5_learn_238 : decode cX5_learn 238 = .ok (.iconst 0, 1) := by decide +kernel
theorem dX5_learn_239 : decode cX5_learn 239 = .ok (.istore_n 3, 1) := by decide +kernel
theorem dX5_learn_240 : decode cX5_learn 240 = .ok (.iload_n 1, 1) := by decide +kernel
theorem dX5_learn_241 : decode cX5_learn 241 = .ok (.ifCond .le 85, 3) := by decide +kernel
theorem dX5_learn_244 : decode cX5_learn 244 = .ok (.iload_n 2, 1) := by decide +kernel
theorem dX5_learn_245 : decode cX5_learn 245 = .ok (.ifCond .ge 7, 3) := by decide +kernel
theorem dX5_learn_248 : decode cX5_learn 248 = .ok (.iconst 0, 1) := by decide +kernel
theorem dX5_learn_249 : decode cX5_learn 249 = .ok (.goto 9, 3) := by decide +kernel
theorem dX5_learn_252 : decode cX5_learn 252 = .ok (.aload_n 0, 1) := by decide +kernel
theorem dX5_learn_253 : decode cX5_learn 253 = .ok (.iload_n 2, 1) := by decide +kernel
theorem dX5_learn_254 : decode cX5_learn 254 = .ok (.iload_n 3, 1) := by decide +kernel
theorem dX5_learn_255 : decode cX5_learn 255 = .ok (.invokevirtual 68, 3) := by decide +kernel
theorem dX5_learn_258 : decode cX5_learn 258 = .ok (.istore 4, 2) := by decide +kernel
theorem dX5_learn_260 : decode cX5_learn 260 = .ok (.iload 4, 2) := by decide +kernel
theorem dX5_learn_262 : decode cX5_learn 262 = .ok (.ifCond .lt 58, 3) := by decide +kernel
theorem dX5_learn_265 : decode cX5_learn 265 = .ok (.aload_n 0, 1) := by decide +kernel
theorem dX5_learn_266 : decode cX5_learn 266 = .ok (.getfield 41, 3) := by decide +kernel
theorem dX5_learn_269 : decode cX5_learn 269 = .ok (.iload_n 3, 1) := by decide +kernel
theorem dX5_learn_270 : decode cX5_learn 270 = .ok (.iaload, 1) := by decide +kernel
theorem dX5_learn_271 : decode cX5_learn 271 = .ok (.aload_n 0, 1) := by decide +kernel
theorem dX5_learn_272 : decode cX5_learn 272 = .ok (.getfield 20, 3) := by decide +kernel
theorem dX5_learn_275 : decode cX5_learn 275 = .ok (.iload 4, 2) := by decide +kernel
theorem dX5_learn_277 : decode cX5_learn 277 = .ok (.imul, 1) := by decide +kernel
theorem dX5_learn_278 : decode cX5_learn 278 = .ok (.isub, 1) := by decide +kernel
theorem dX5_learn_279 : decode cX5_learn 279 = .ok (.iload_n 1, 1) := by decide +kernel
theorem dX5_learn_280 : decode cX5_learn 280 = .ok (.if_icmp .ne 40, 3) := by decide +kernel
theorem dX5_learn_283 : decode cX5_learn 283 = .ok (.aload_n 0, 1) := by decide +kernel
theorem dX5_learn_284 : decode cX5_learn 284 = .ok (.getfield 44, 3) := by decide +kernel
theorem dX5_learn_287 : decode cX5_learn 287 = .ok (.aload_n 0, 1) := by decide +kernel
theorem dX5_learn_288 : decode cX5_learn 288 = .ok (.getfield 72, 3) := by decide +kernel
theorem dX5_learn_291 : decode cX5_learn 291 = .ok (.iload_n 3, 1) := by decide +kernel
theorem dX5_learn_292 : decode cX5_learn 292 = .ok (.iastore, 1) := by decide +kernel
