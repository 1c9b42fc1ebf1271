theorem dX4_init_0 : decode cX4_init 0 = .ok (.aload_n 0, 1) := by decide +kernel
theorem dX4_init_1 : decode cX4_init 1 = .ok (.invokespecial 1, 3) := by decide +kernel
theorem dX4_init_4 : decode cX4_init 4 = .ok (.aload_n 0, 1) := by decide +kernel
theorem dX4_init_5 : decode cX4_init 5 = .ok (.new 7, 3) := by decide +kernel
theorem dX4_init_8 : decode cX4_init 8 = .ok (.dup, 1) := by decide +kernel
theorem dX4_init_9 : decode cX4_init 9 = .ok (.invokespecial 9, 3) := by decide +kernel
theorem dX4_init_12 : decode cX4_init 12 = .ok (.putfield 10, 3) := by decide +kernel
theorem dX4_init_15 : decode cX4_init 15 = .ok (.aload_n 0, 1) := by decide +kernel
theorem dX4_init_16 : decode cX4_init 16 = .ok (.new 7, 3) := by decide +kernel
theorem dX4_init_19 : decode cX4_init 19 = .ok (.dup, 1) := by decide +kernel
theorem dX4_init_20 : decode cX4_init 20 = .ok (.invokespecial 9, 3) := by decide +kernel
theorem dX4_init_23 : decode cX4_init 23 = .ok (.putfield 16, 3) := by decide +kernel
theorem dX4_init_26 : decode cX4_init 26 = .ok (.aload_n 0, 1) := by decide +kernel
theorem dX4_init_27 : decode cX4_init 27 = .ok (.new 19, 3) := by decide +kernel
theorem dX4_init_30 : decode cX4_init 30 = .ok (.dup, 1) := by decide +kernel
theorem dX4_init_31 : decode cX4_init 31 = .ok (.aload_n 0, 1) := by decide +kernel
theorem dX4_init_32 : decode cX4_init 32 = .ok (.getfield 10, 3) := by decide +kernel
theorem dX4_init_35 : decode cX4_init 35 = .ok (.aload_n 0, 1) := by decide +kernel
theorem dX4_init_36 : decode cX4_init 36 = .ok (.getfield 16, 3) := by decide +kernel
theorem dX4_init_39 : decode cX4_init 39 = .ok (.invokespecial 21, 3) := by decide +kernel
theorem dX4_init_42 : decode cX4_init 42 = .ok (.putfield 24, 3) := by decide +kernel
theorem dX4_init_45 : decode cX4_init 45 = .ok (.aload_n 0, 1) := by decide +kernel
theorem dX4_init_46 : decode cX4_init 46 = .ok (.new 28, 3) := by decide +kernel
theorem dX4_init_49 : decode cX4_init 49 = .ok (.dup, 1) := by decide +kernel
theorem dX4_init_50 : decode cX4_init 50 = .ok (.invokespecial 30, 3) := by decide +kernel
theorem dX4_init_53 : decode cX4_init 53 = .ok (.putfield 31, 3) := by decide +kernel
theorem dX4_init_56 : decode cX4_init 56 = .ok (.aload_n 0, 1) := by decide +kernel
theorem dX4_init_57 : decode cX4_init 57 = .ok (.new 35, 3) := by decide +kernel
theorem dX4_init_60 : decode cX4_init 60 = .ok (.dup, 1) := by decide +kernel
theorem dX4_init_61 : decode cX4_init 61 = .ok (.invokespecial 37, 3) := by decide +kernel
theorem dX4_init_64 : decode cX4_init 64 = .ok (.putfield 38, 3) := by decide +kernel
theorem dX4_init_67 : decode cX4_init 67 = .ok (.aload_n 0, 1) := by decide +kernel
theorem dX4_init_68 : decode cX4_init 68 = .ok (.iconst 1, 1) := by decide +kernel
theorem dX4_init_69 : decode cX4_init 69 = .ok (.putfield 42, 3) := by decide +kernel
theorem dX4_init_72 : decode cX4_init 72 = .ok (.aload_n 0, 1) := by decide +kernel
theorem dX4_init_73 : decode cX4_init 73 = .ok (.iconst 0, 1) := by decide +kernel
theorem dX4_init_74 : decode cX4_init 74 = .ok (.putfield 46, 3) := by decide +kernel
theorem dX4_init_77 : decode cX4_init 77 = .ok (.return_, 1) := by decide +kernel
theorem dX4_put_0 : decode cX4_put 0 = .ok (.aload_n 0, 1) := by decide +kernel
theorem dX4_put_1 : decode cX4_put 1 = .ok (.iload_n 1, 1) := by decide +kernel
theorem dX4_put_2 : decode cX4_put 2 = .ok (.invokevirtual 50, 3) := by decide +kernel
theorem dX4_put_5 : decode cX4_put 5 = .ok (.astore_n 3, 1) := by decide +kernel
theorem dX4_put_6 : decode cX4_put 6 = .ok (.aload_n 3, 1) := by decide +kernel
theorem dX4_put_7 : decode cX4_put 7 = .ok (.ifnull 19, 3) := by decide +kernel
theorem dX4_put_10 : decode cX4_put 10 = .ok (.iload_n 2, 1) := by decide +kernel
theorem dX4_put_11 : decode cX4_put 11 = .ok (.iconst 0, 1) := by decide +kernel
theorem dX4_put_12 : decode cX4_put 12 = .ok (.iconst 3, 1) := by decide +kernel
theorem dX4_put_13 : decode cX4_put 13 = .ok (.invokestatic 54, 3) := by decide +kernel
theorem dX4_put_16 : decode cX4_put 16 = .ok (.ifCond .eq 10, 3) := by decide +kernel
theorem dX4_put_19 : decode cX4_put 19 = .ok (.aload_n 3, 1) := by decide +kernel
theorem dX4_put_20 : decode cX4_put 20 = .ok (.invokevirtual 58, 3) := by decide +kernel
theorem dX4_put_23 : decode cX4_put 23 = .ok (.ifCond .eq 5, 3) := by decide +kernel
theorem dX4_put_26 : decode cX4_put 26 = .ok (.iconst (-1), 1) := by decide +kernel
theorem dX4_put_27 : decode cX4_put 27 = .ok (.ireturn, 1) := by decide +kernel
theorem dX4_put_28 : decode cX4_put 28 = .ok (.aload_n 0, 1) := by decide +kernel
theorem dX4_put_29 : decode cX4_put 29 = .ok (.iconst 0, 1) := by decide +kernel
theorem dX4_put_30 : decode cX4_put 30 = .ok (.putfield 46, 3) := by decide +kernel
theorem dX4_put_33 : decode cX4_put 33 = .ok (.aload_n 3, 1) := by decide +kernel
theorem dX4_put_34 : decode cX4_put 34 = .ok (.iload_n 2, 1) := by decide +kernel
theorem dX4_put_35 : decode cX4_put 35 = .ok (.invokevirtual 62, 3) := by decide +kernel
theorem dX4_put_38 : decode cX4_put 38 = .ok (.aload_n 3, 1) := by decide +kernel
theorem dX4_put_39 : decode cX4_put 39 = .ok (.invokevirtual 66, 3) := by decide +kernel
theorem dX4_put_42 : decode cX4_put 42 = .ok (.ireturn, 1) := by decide +kernel
theorem dX4_rowOf_0 : decode cX4_rowOf 0 = .ok (.iload_n 1, 1) := by decide +kernel
theorem dX4_rowOf_1 : decode cX4_rowOf 1 = .ok (.ifCond .ne 8, 3) := by decide +kernel
theorem dX4_rowOf_4 : decode cX4_rowOf 4 = .ok (.aload_n 0, 1) := by decide +kernel
theorem dX4_rowOf_5 : decode cX4_rowOf 5 = .ok (.getfield 10, 3) := by decide +kernel
theorem dX4_rowOf_8 : decode cX4_rowOf 8 = .ok (.areturn, 1) := by decide +kernel
theorem dX4_rowOf_9 : decode cX4_rowOf 9 = .ok (.iload_n 1, 1) := by decide +kernel
theorem dX4_rowOf_10 : decode cX4_rowOf 10 = .ok (.iconst 1, 1) := by decide +kernel
theorem dX4_rowOf_11 : decode cX4_rowOf 11 = .ok (.if_icmp .ne 10, 3) := by decide +kernel
theorem dX4_rowOf_14 : decode cX4_rowOf 14 = .ok (.aload_n 0, 1) := by decide +kernel
theorem dX4_rowOf_15 : decode cX4_rowOf 15 = .ok (.getfield 16, 3) := by decide +kernel
theorem dX4_rowOf_18 : decode cX4_rowOf 18 = .ok (.goto 4, 3) := by decide +kernel
theorem dX4_rowOf_21 : decode cX4_rowOf 21 = .ok (.aconst_null, 1) := by decide +kernel
theorem dX4_rowOf_22 : decode cX4_rowOf 22 = .ok (.areturn, 1) := by decide +kernel
theorem dX4_isBetween_0 : decode cX4_isBetween 0 = .ok (.iload_n 0, 1) := by decide +kernel
theorem dX4_isBetween_1 : decode cX4_isBetween 1 = .ok (.iload_n 1, 1) := by decide +kernel
theorem dX4_isBetween_2 : decode cX4_isBetween 2 = .ok (.if_icmp .lt 12, 3) := by decide +kernel
theorem dX4_isBetween_5 : decode cX4_isBetween 5 = .ok (.iload_n 0, 1) := by decide +kernel
theorem dX4_isBetween_6 : decode cX4_isBetween 6 = .ok (.iload_n 2, 1) := by decide +kernel
theorem dX4_isBetween_7 : decode cX4_isBetween 7 = .ok (.if_icmp .gt 7, 3) := by decide +kernel
theorem dX4_isBetween_10 : decode cX4_isBetween 10 = .ok (.iconst 1, 1) := by decide +kernel
theorem dX4_isBetween_11 : decode cX4_isBetween 11 = .ok (.goto 4, 3) := by decide +kernel
theorem dX4_isBetween_14 : decode cX4_isBetween 14 = .ok (.iconst 0, 1) := by decide +kernel
theorem dX4_isBetween_15 : decode cX4_isBetween 15 = .ok (.ireturn, 1) := by decide +kernel
theorem dX4_cut_0 : decode cX4_cut 0 = .ok (.aload_n 0, 1) := by decide +kernel
theorem dX4_cut_1 : decode cX4_cut 1 = .ok (.iload_n 1, 1) := by decide +kernel
theorem dX4_cut_2 : decode cX4_cut 2 = .ok (.invokevirtual 50, 3) := by decide +kernel
theorem dX4_cut_5 : decode cX4_cut 5 = .ok (.astore_n 2, 1) := by decide +kernel
theorem dX4_cut_6 : decode cX4_cut 6 = .ok (.aload_n 2, 1) := by decide +kernel
theorem dX4_cut_7 : decode cX4_cut 7 = .ok (.ifnull 10, 3) := by decide +kernel
theorem dX4_cut_10 : decode cX4_cut 10 = .ok (.aload_n 2, 1) := by decide +kernel
theorem dX4_cut_11 : decode cX4_cut 11 = .ok (.invokevirtual 66, 3) := by decide +kernel
theorem dX4_cut_14 : decode cX4_cut 14 = .ok (.ifCond .ne 5, 3) := by decide +kernel
theorem dX4_cut_17 : decode cX4_cut 17 = .ok (.iconst (-1), 1) := by decide +kernel
theorem dX4_cut_18 : decode cX4_cut 18 = .ok (.ireturn, 1) := by decide +kernel
theorem dX4_cut_19 : decode cX4_cut 19 = .ok (.aload_n 0, 1) := by decide +kernel
theorem dX4_cut_20 : decode cX4_cut 20 = .ok (.iconst 0, 1) := by decide +kernel
theorem dX4_cut_21 : decode cX4_cut 21 = .ok (.putfield 46, 3) := by decide +kernel
theorem dX4_cut_24 : decode cX4_cut 24 = .ok (.aload_n 2, 1) := by decide +kernel
theorem dX4_cut_25 : decode cX4_cut 25 = .ok (.invokevirtual 70, 3) := by decide +kernel
theorem dX4_cut_28 : decode cX4_cut 28 = .ok (.ireturn, 1) := by decide +kernel
theorem dX4_letter_0 : decode cX4_letter 0 = .ok (.aload_n 0, 1) := by decide +kernel
theorem dX4_letter_1 : decode cX4_letter 1 = .ok (.iload_n 1, 1) := by decide +kernel
theorem dX4_letter_2 : decode cX4_letter 2 = .ok (.invokevirtual 50, 3) := by decide +kernel
theorem dX4_letter_5 : decode cX4_letter 5 = .ok (.astore_n 3, 1) := by decide +kernel
theorem dX4_letter_6 : decode cX4_letter 6 = .ok (.aload_n 3, 1) := by decide +kernel
theorem dX4_letter_7 : decode cX4_letter 7 = .ok (.ifnonnull 7, 3) := by decide +kernel
theorem dX4_letter_10 : decode cX4_letter 10 = .ok (.iconst (-1), 1) := by decide +kernel
theorem dX4_letter_11 : decode cX4_letter 11 = .ok (.goto 8, 3) := by decide +kernel
theorem dX4_letter_14 : decode cX4_letter 14 = .ok (.aload_n 3, 1) := by decide +kernel
theorem dX4_letter_15 : decode cX4_letter 15 = .ok (.iload_n 2, 1) := by decide +kernel
theorem dX4_letter_16 : decode cX4_letter 16 = .ok (.invokevirtual 73, 3) := by decide +kernel
theorem dX4_letter_19 : decode cX4_letter 19 = .ok (.ireturn, 1) := by decide +kernel
theorem dX4_seeds_0 : decode cX4_seeds 0 = .ok (.iload_n 1, 1) := by decide +kernel
theorem dX4_seeds_1 : decode cX4_seeds 1 = .ok (.iconst 1, 1) := by decide +kernel
theorem dX4_seeds_2 : decode cX4_seeds 2 = .ok (.bipush 6, 2) := by decide +kernel
theorem dX4_seeds_4 : decode cX4_seeds 4 = .ok (.invokestatic 54, 3) := by decide +kernel
theorem dX4_seeds_7 : decode cX4_seeds 7 = .ok (.ifCond .ne 5, 3) := by decide +kernel
theorem dX4_seeds_10 : decode cX4_seeds 10 = .ok (.iconst 0, 1) := by decide +kernel
theorem dX4_seeds_11 : decode cX4_seeds 11 = .ok (.ireturn, 1) := by decide +kernel
theorem dX4_seeds_12 : decode cX4_seeds 12 = .ok (.aload_n 0, 1) := by decide +kernel
theorem dX4_seeds_13 : decode cX4_seeds 13 = .ok (.iconst 0, 1) := by decide +kernel
theorem dX4_seeds_14 : decode cX4_seeds 14 = .ok (.putfield 46, 3) := by decide +kernel
theorem dX4_seeds_17 : decode cX4_seeds 17 = .ok (.aload_n 0, 1) := by decide +kernel
theorem dX4_seeds_18 : decode cX4_seeds 18 = .ok (.getfield 24, 3) := by decide +kernel
theorem dX4_seeds_21 : decode cX4_seeds 21 = .ok (.iload_n 1, 1) := by decide +kernel
theorem dX4_seeds_22 : decode cX4_seeds 22 = .ok (.invokevirtual 77, 3) := by decide +kernel
theorem dX4_seeds_25 : decode cX4_seeds 25 = .ok (.iconst 1, 1) := by decide +kernel
theorem dX4_seeds_26 : decode cX4_seeds 26 = .ok (.ireturn, 1) := by decide +kernel
theorem dX4_penalty_0 : decode cX4_penalty 0 = .ok (.iload_n 1, 1) := by decide +kernel
theorem dX4_penalty_1 : decode cX4_penalty 1 = .ok (.iconst 0, 1) := by decide +kernel
theorem dX4_penalty_2 : decode cX4_penalty 2 = .ok (.bipush 9, 2) := by decide +kernel
theorem dX4_penalty_4 : decode cX4_penalty 4 = .ok (.invokestatic 54, 3) := by decide +kernel
theorem dX4_penalty_7 : decode cX4_penalty 7 = .ok (.ifCond .ne 5, 3) := by decide +kernel
theorem dX4_penalty_10 : decode cX4_penalty 10 = .ok (.iconst 0, 1) := by decide +kernel
theorem dX4_penalty_11 : decode cX4_penalty 11 = .ok (.ireturn, 1) := by decide +kernel
theorem dX4_penalty_12 : decode cX4_penalty 12 = .ok (.aload_n 0, 1) := by decide +kernel
theorem dX4_penalty_13 : decode cX4_penalty 13 = .ok (.iconst 0, 1) := by decide +kernel
theorem dX4_penalty_14 : decode cX4_penalty 14 = .ok (.putfield 46, 3) := by decide +kernel
theorem dX4_penalty_17 : decode cX4_penalty 17 = .ok (.aload_n 0, 1) := by decide +kernel
theorem dX4_penalty_18 : decode cX4_penalty 18 = .ok (.iload_n 1, 1) := by decide +kernel
theorem dX4_penalty_19 : decode cX4_penalty 19 = .ok (.putfield 42, 3) := by decide +kernel
theorem dX4_penalty_22 : decode cX4_penalty 22 = .ok (.iconst 1, 1) := by decide +kernel
theorem dX4_penalty_23 : decode cX4_penalty 23 = .ok (.ireturn, 1) := by decide +kernel
theorem dX4_scores_0 : decode cX4_scores 0 = .ok (.iload_n 1, 1) := by decide +kernel
theorem dX4_scores_1 : decode cX4_scores 1 = .ok (.iconst 1, 1) := by decide +kernel
theorem dX4_scores_2 : decode cX4_scores 2 = .ok (.bipush 9, 2) := by decide +kernel
theorem dX4_scores_4 : decode cX4_scores 4 = .ok (.invokestatic 54, 3) := by decide +kernel
theorem dX4_scores_7 : decode cX4_scores 7 = .ok (.ifCond .eq 34, 3) := by decide +kernel
theorem dX4_scores_10 : decode cX4_scores 10 = .ok (.iload_n 2, 1) := by decide +kernel
theorem dX4_scores_11 : decode cX4_scores 11 = .ok (.iconst 0, 1) := by decide +kernel
theorem dX4_scores_12 : decode cX4_scores 12 = .ok (.bipush 9, 2) := by decide +kernel
theorem dX4_scores_14 : decode cX4_scores 14 = .ok (.invokestatic 54, 3) := by decide +kernel
theorem dX4_scores_17 : decode cX4_scores 17 = .ok (.ifCond .eq 24, 3) := by decide +kernel
theorem dX4_scores_20 : decode cX4_scores 20 = .ok (.iload_n 3, 1) := by decide +kernel
theorem dX4_scores_21 : decode cX4_scores 21 = .ok (.iconst 1, 1) := by decide +kernel
theorem dX4_scores_22 : decode cX4_scores 22 = .ok (.bipush 9, 2) := by decide +kernel
theorem dX4_scores_24 : decode cX4_scores 24 = .ok (.invokestatic 54, 3) := by decide +kernel
theorem dX4_scores_27 : decode cX4_scores 27 = .ok (.ifCond .eq 14, 3) := by decide +kernel
theorem dX4_scores_30 : decode cX4_scores 30 = .ok (.iload 4, 2) := by decide +kernel
theorem dX4_scores_32 : decode cX4_scores 32 = .ok (.iconst 0, 1) := by decide +kernel
theorem dX4_scores_33 : decode cX4_scores 33 = .ok (.bipush 99, 2) := by decide +kernel
theorem dX4_scores_35 : decode cX4_scores 35 = .ok (.invokestatic 54, 3) := by decide +kernel
theorem dX4_scores_38 : decode cX4_scores 38 = .ok (.ifCond .ne 5, 3) := by decide +kernel
theorem dX4_scores_41 : decode cX4_scores 41 = .ok (.iconst 0, 1) := by decide +kernel
theorem dX4_scores_42 : decode cX4_scores 42 = .ok (.ireturn, 1) := by decide +kernel
theorem dX4_scores_43 : decode cX4_scores 43 = .ok (.aload_n 0, 1) := by decide +kernel
theorem dX4_scores_44 : decode cX4_scores 44 = .ok (.getfield 38, 3) := by decide +kernel
theorem dX4_scores_47 : decode cX4_scores 47 = .ok (.iload_n 1, 1) := by decide +kernel
theorem dX4_scores_48 : decode cX4_scores 48 = .ok (.iload_n 2, 1) := by decide +kernel
theorem dX4_scores_49 : decode cX4_scores 49 = .ok (.iload_n 3, 1) := by decide +kernel
theorem dX4_scores_50 : decode cX4_scores 50 = .ok (.iload 4, 2) := by decide +kernel
theorem dX4_scores_52 : decode cX4_scores 52 = .ok (.invokevirtual 80, 3) := by decide +kernel
theorem dX4_scores_55 : decode cX4_scores 55 = .ok (.iconst 1, 1) := by decide +kernel
theorem dX4_scores_56 : decode cX4_scores 56 = .ok (.ireturn, 1) := by decide +kernel
theorem dX4_anchors_0 : decode cX4_anchors 0 = .ok (.aload_n 0, 1) := by decide +kernel
theorem dX4_anchors_1 : decode cX4_anchors 1 = .ok (.getfield 24, 3) := by decide +kernel
theorem dX4_anchors_4 : decode cX4_anchors 4 = .ok (.invokevirtual 84, 3) := by decide +kernel
theorem dX4_anchors_7 : decode cX4_anchors 7 = .ok (.ireturn, 1) := by decide +kernel
theorem dX4_anchor_0 : decode cX4_anchor 0 = .ok (.aload_n 0, 1) := by decide +kernel
theorem dX4_anchor_1 : decode cX4_anchor 1 = .ok (.getfield 24, 3) := by decide +kernel
theorem dX4_anchor_4 : decode cX4_anchor 4 = .ok (.iload_n 1, 1) := by decide +kernel
theorem dX4_anchor_5 : decode cX4_anchor 5 = .ok (.invokevirtual 87, 3) := by decide +kernel
theorem dX4_anchor_8 : decode cX4_anchor 8 = .ok (.iload_n 2, 1) := by decide +kernel
theorem dX4_anchor_9 : decode cX4_anchor 9 = .ok (.invokestatic 90, 3) := by decide +kernel
theorem dX4_anchor_12 : decode cX4_anchor 12 = .ok (.ireturn, 1) := by decide +kernel
theorem dX4_pairOf_0 : decode cX4_pairOf 0 = .ok (.iload_n 0, 1) := by decide +kernel
theorem dX4_pairOf_1 : decode cX4_pairOf 1 = .ok (.bipush 48, 2) := by decide +kernel
theorem dX4_pairOf_3 : decode cX4_pairOf 3 = .ok (.imul, 1) := by decide +kernel
theorem dX4_pairOf_4 : decode cX4_pairOf 4 = .ok (.iload_n 1, 1) := by decide +kernel
theorem dX4_pairOf_5 : decode cX4_pairOf 5 = .ok (.iadd, 1) := by decide +kernel
theorem dX4_pairOf_6 : decode cX4_pairOf 6 = .ok (.ireturn, 1) := by decide +kernel
theorem dX4_placeOf_0 : decode cX4_placeOf 0 = .ok (.iload_n 0, 1) := by decide +kernel
theorem dX4_placeOf_1 : decode cX4_placeOf 1 = .ok (.iconst (-1), 1) := by decide +kernel
theorem dX4_placeOf_2 : decode cX4_placeOf 2 = .ok (.if_icmp .eq 12, 3) := by decide +kernel
theorem dX4_placeOf_5 : decode cX4_placeOf 5 = .ok (.iload_n 1, 1) := by decide +kernel
theorem dX4_placeOf_6 : decode cX4_placeOf 6 = .ok (.iconst 0, 1) := by decide +kernel
theorem dX4_placeOf_7 : decode cX4_placeOf 7 = .ok (.iconst 1, 1) := by decide +kernel
theorem dX4_placeOf_8 : decode cX4_placeOf 8 = .ok (.invokestatic 54, 3) := by decide +kernel
theorem dX4_placeOf_11 : decode cX4_placeOf 11 = .ok (.ifCond .ne 5, 3) := by decide +kernel
theorem dX4_placeOf_14 : decode cX4_placeOf 14 = .ok (.iconst (-1), 1) := by decide +kernel
theorem dX4_placeOf_15 : decode cX4_placeOf 15 = .ok (.ireturn, 1) := by decide +kernel
theorem dX4_placeOf_16 : decode cX4_placeOf 16 = .ok (.iload_n 1, 1) := by decide +kernel
theorem dX4_placeOf_17 : decode cX4_placeOf 17 = .ok (.ifCond .ne 10, 3) := by decide +kernel
theorem dX4_placeOf_20 : decode cX4_placeOf 20 = .ok (.iload_n 0, 1) := by decide +kernel
theorem dX4_placeOf_21 : decode cX4_placeOf 21 = .ok (.bipush 48, 2) := by decide +kernel
theorem dX4_placeOf_23 : decode cX4_placeOf 23 = .ok (.idiv, 1) := by decide +kernel
theorem dX4_placeOf_24 : decode cX4_placeOf 24 = .ok (.goto 7, 3) := by decide +kernel
theorem dX4_placeOf_27 : decode cX4_placeOf 27 = .ok (.iload_n 0, 1) := by decide +kernel
theorem dX4_placeOf_28 : decode cX4_placeOf 28 = .ok (.bipush 48, 2) := by decide +kernel
theorem dX4_placeOf_30 : decode cX4_placeOf 30 = .ok (.irem, 1) := by decide +kernel
theorem dX4_placeOf_31 : decode cX4_placeOf 31 = .ok (.ireturn, 1) := by decide +kernel
theorem dX4_chain_0 : decode cX4_chain 0 = .ok (.aload_n 0, 1) := by decide +kernel
theorem dX4_chain_1 : decode cX4_chain 1 = .ok (.invokevirtual 94, 3) := by decide +kernel
theorem dX4_chain_4 : decode cX4_chain 4 = .ok (.invokevirtual 98, 3) := by decide +kernel
theorem dX4_chain_7 : decode cX4_chain 7 = .ok (.ireturn, 1) := by decide +kernel
theorem dX4_freshBest_0 : decode cX4_freshBest 0 = .ok (.aload_n 0, 1) := by decide +kernel
theorem dX4_freshBest_1 : decode cX4_freshBest 1 = .ok (.getfield 46, 3) := by decide +kernel
theorem dX4_freshBest_4 : decode cX4_freshBest 4 = .ok (.ifCond .ne 23, 3) := by decide +kernel
theorem dX4_freshBest_7 : decode cX4_freshBest 7 = .ok (.aload_n 0, 1) := by decide +kernel
theorem dX4_freshBest_8 : decode cX4_freshBest 8 = .ok (.getfield 31, 3) := by decide +kernel
theorem dX4_freshBest_11 : decode cX4_freshBest 11 = .ok (.aload_n 0, 1) := by decide +kernel
theorem dX4_freshBest_12 : decode cX4_freshBest 12 = .ok (.getfield 24, 3) := by decide +kernel
theorem dX4_freshBest_15 : decode cX4_freshBest 15 = .ok (.aload_n 0, 1) := by decide +kernel
theorem dX4_freshBest_16 : decode cX4_freshBest 16 = .ok (.getfield 42, 3) := by decide +kernel
theorem dX4_freshBest_19 : decode cX4_freshBest 19 = .ok (.invokevirtual 113, 3) := by decide +kernel
theorem dX4_freshBest_22 : decode cX4_freshBest 22 = .ok (.aload_n 0, 1) := by decide +kernel
theorem dX4_freshBest_23 : decode cX4_freshBest 23 = .ok (.iconst 1, 1) := by decide +kernel
theorem dX4_freshBest_24 : decode cX4_freshBest 24 = .ok (.putfield 46, 3) := by decide +kernel
theorem dX4_freshBest_27 : decode cX4_freshBest 27 = .ok (.aload_n 0, 1) := by decide +kernel
theorem dX4_freshBest_28 : decode cX4_freshBest 28 = .ok (.getfield 31, 3) := by decide +kernel
theorem dX4_freshBest_31 : decode cX4_freshBest 31 = .ok (.areturn, 1) := by decide +kernel
theorem dX4_links_0 : decode cX4_links 0 = .ok (.aload_n 0, 1) := by decide +kernel
theorem dX4_links_1 : decode cX4_links 1 = .ok (.invokevirtual 94, 3) := by decide +kernel
theorem dX4_links_4 : decode cX4_links 4 = .ok (.invokevirtual 101, 3) := by decide +kernel
theorem dX4_links_7 : decode cX4_links 7 = .ok (.ireturn, 1) := by decide +kernel
theorem dX4_link_0 : decode cX4_link 0 = .ok (.aload_n 0, 1) := by decide +kernel
theorem dX4_link_1 : decode cX4_link 1 = .ok (.invokevirtual 94, 3) := by decide +kernel
theorem dX4_link_4 : decode cX4_link 4 = .ok (.iload_n 1, 1) := by decide +kernel
theorem dX4_link_5 : decode cX4_link 5 = .ok (.invokevirtual 102, 3) := by decide +kernel
theorem dX4_link_8 : decode cX4_link 8 = .ok (.iload_n 2, 1) := by decide +kernel
theorem dX4_link_9 : decode cX4_link 9 = .ok (.invokestatic 90, 3) := by decide +kernel
theorem dX4_link_12 : decode cX4_link 12 = .ok (.ireturn, 1) := by decide +kernel
theorem dX4_reach_0 : decode cX4_reach 0 = .ok (.iload_n 1, 1) := by decide +kernel
theorem dX4_reach_1 : decode cX4_reach 1 = .ok (.iconst 0, 1) := by decide +kernel
theorem dX4_reach_2 : decode cX4_reach 2 = .ok (.aload_n 0, 1) := by decide +kernel
theorem dX4_reach_3 : decode cX4_reach 3 = .ok (.getfield 10, 3) := by decide +kernel
theorem dX4_reach_6 : decode cX4_reach 6 = .ok (.invokevirtual 66, 3) := by decide +kernel
theorem dX4_reach_9 : decode cX4_reach 9 = .ok (.invokestatic 54, 3) := by decide +kernel
theorem dX4_reach_12 : decode cX4_reach 12 = .ok (.ifCond .eq 18, 3) := by decide +kernel
theorem dX4_reach_15 : decode cX4_reach 15 = .ok (.iload_n 2, 1) := by decide +kernel
theorem dX4_reach_16 : decode cX4_reach 16 = .ok (.iconst 0, 1) := by decide +kernel
theorem dX4_reach_17 : decode cX4_reach 17 = .ok (.aload_n 0, 1) := by decide +kernel
theorem dX4_reach_18 : decode cX4_reach 18 = .ok (.getfield 16, 3) := by decide +kernel
theorem dX4_reach_21 : decode cX4_reach 21 = .ok (.invokevirtual 66, 3) := by decide +kernel
theorem dX4_reach_24 : decode cX4_reach 24 = .ok (.invokestatic 54, 3) := by decide +kernel
theorem dX4_reach_27 : decode cX4_reach 27 = .ok (.ifCond .ne 5, 3) := by decide +kernel
theorem dX4_reach_30 : decode cX4_reach 30 = .ok (.iconst (-1), 1) := by decide +kernel
theorem dX4_reach_31 : decode cX4_reach 31 = .ok (.ireturn, 1) := by decide +kernel
theorem dX4_reach_32 : decode cX4_reach 32 = .ok (.aload_n 0, 1) := by decide +kernel
theorem dX4_reach_33 : decode cX4_reach 33 = .ok (.getfield 38, 3) := by decide +kernel
theorem dX4_reach_36 : decode cX4_reach 36 = .ok (.aload_n 0, 1) := by decide +kernel
theorem dX4_reach_37 : decode cX4_reach 37 = .ok (.getfield 10, 3) := by decide +kernel
theorem dX4_reach_40 : decode cX4_reach 40 = .ok (.iload_n 1, 1) := by decide +kernel
theorem dX4_reach_41 : decode cX4_reach 41 = .ok (.aload_n 0, 1) := by decide +kernel
theorem dX4_reach_42 : decode cX4_reach 42 = .ok (.getfield 16, 3) := by decide +kernel
theorem dX4_reach_45 : decode cX4_reach 45 = .ok (.iload_n 2, 1) := by decide +kernel
theorem dX4_reach_46 : decode cX4_reach 46 = .ok (.invokevirtual 103, 3) := by decide +kernel
theorem dX4_reach_49 : decode cX4_reach 49 = .ok (.aload_n 0, 1) := by decide +kernel
theorem dX4_reach_50 : decode cX4_reach 50 = .ok (.getfield 38, 3) := by decide +kernel
theorem dX4_reach_53 : decode cX4_reach 53 = .ok (.invokevirtual 107, 3) := by decide +kernel
theorem dX4_reach_56 : decode cX4_reach 56 = .ok (.ireturn, 1) := by decide +kernel
theorem dX4_reached_0 : decode cX4_reached 0 = .ok (.aload_n 0, 1) := by decide +kernel
theorem dX4_reached_1 : decode cX4_reached 1 = .ok (.getfield 38, 3) := by decide +kernel
theorem dX4_reached_4 : decode cX4_reached 4 = .ok (.iload_n 1, 1) := by decide +kernel
theorem dX4_reached_5 : decode cX4_reached 5 = .ok (.invokevirtual 110, 3) := by decide +kernel
theorem dX4_reached_8 : decode cX4_reached 8 = .ok (.ireturn, 1) := by decide +kernel
