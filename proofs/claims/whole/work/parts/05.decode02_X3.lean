theorem dX3_init_0 : decode cX3_init 0 = .ok (.aload_n 0, 1) := by decide +kernel
theorem dX3_init_1 : decode cX3_init 1 = .ok (.invokespecial 3, 3) := by decide +kernel
theorem dX3_init_4 : decode cX3_init 4 = .ok (.aload_n 0, 1) := by decide +kernel
theorem dX3_init_5 : decode cX3_init 5 = .ok (.iconst 2, 1) := by decide +kernel
theorem dX3_init_6 : decode cX3_init 6 = .ok (.putfield 9, 3) := by decide +kernel
theorem dX3_init_9 : decode cX3_init 9 = .ok (.aload_n 0, 1) := by decide +kernel
theorem dX3_init_10 : decode cX3_init 10 = .ok (.aload_n 1, 1) := by decide +kernel
theorem dX3_init_11 : decode cX3_init 11 = .ok (.putfield 15, 3) := by decide +kernel
theorem dX3_init_14 : decode cX3_init 14 = .ok (.aload_n 0, 1) := by decide +kernel
theorem dX3_init_15 : decode cX3_init 15 = .ok (.aload_n 2, 1) := by decide +kernel
theorem dX3_init_16 : decode cX3_init 16 = .ok (.putfield 19, 3) := by decide +kernel
theorem dX3_init_19 : decode cX3_init 19 = .ok (.return_, 1) := by decide +kernel
theorem dX3_useLength_0 : decode cX3_useLength 0 = .ok (.aload_n 0, 1) := by decide +kernel
theorem dX3_useLength_1 : decode cX3_useLength 1 = .ok (.iload_n 1, 1) := by decide +kernel
theorem dX3_useLength_2 : decode cX3_useLength 2 = .ok (.putfield 9, 3) := by decide +kernel
theorem dX3_useLength_5 : decode cX3_useLength 5 = .ok (.return_, 1) := by decide +kernel
theorem dX3_count_0 : decode cX3_count 0 = .ok (.iconst 0, 1) := by decide +kernel
theorem dX3_count_1 : decode cX3_count 1 = .ok (.istore_n 1, 1) := by decide +kernel
theorem dX3_count_2 : decode cX3_count 2 = .ok (.iconst 0, 1) := by decide +kernel
theorem dX3_count_3 : decode cX3_count 3 = .ok (.istore_n 2, 1) := by decide +kernel
theorem dX3_count_4 : decode cX3_count 4 = .ok (.iload_n 2, 1) := by decide +kernel
theorem dX3_count_5 : decode cX3_count 5 = .ok (.aload_n 0, 1) := by decide +kernel
theorem dX3_count_6 : decode cX3_count 6 = .ok (.getfield 15, 3) := by decide +kernel
theorem dX3_count_9 : decode cX3_count 9 = .ok (.invokevirtual 22, 3) := by decide +kernel
theorem dX3_count_12 : decode cX3_count 12 = .ok (.if_icmp .ge 40, 3) := by decide +kernel
theorem dX3_count_15 : decode cX3_count 15 = .ok (.iconst 0, 1) := by decide +kernel
theorem dX3_count_16 : decode cX3_count 16 = .ok (.istore_n 3, 1) := by decide +kernel
theorem dX3_count_17 : decode cX3_count 17 = .ok (.iload_n 3, 1) := by decide +kernel
theorem dX3_count_18 : decode cX3_count 18 = .ok (.aload_n 0, 1) := by decide +kernel
theorem dX3_count_19 : decode cX3_count 19 = .ok (.getfield 19, 3) := by decide +kernel
theorem dX3_count_22 : decode cX3_count 22 = .ok (.invokevirtual 22, 3) := by decide +kernel
theorem dX3_count_25 : decode cX3_count 25 = .ok (.if_icmp .ge 21, 3) := by decide +kernel
theorem dX3_count_28 : decode cX3_count 28 = .ok (.aload_n 0, 1) := by decide +kernel
theorem dX3_count_29 : decode cX3_count 29 = .ok (.iload_n 2, 1) := by decide +kernel
theorem dX3_count_30 : decode cX3_count 30 = .ok (.iload_n 3, 1) := by decide +kernel
theorem dX3_count_31 : decode cX3_count 31 = .ok (.invokevirtual 32, 3) := by decide +kernel
theorem dX3_count_34 : decode cX3_count 34 = .ok (.ifCond .eq 6, 3) := by decide +kernel
theorem dX3_count_37 : decode cX3_count 37 = .ok (.iinc 1 1, 3) := by decide +kernel
theorem dX3_count_40 : decode cX3_count 40 = .ok (.iinc 3 1, 3) := by decide +kernel
theorem dX3_count_43 : decode cX3_count 43 = .ok (.goto (-26), 3) := by decide +kernel
theorem dX3_count_46 : decode cX3_count 46 = .ok (.iinc 2 1, 3) := by decide +kernel
theorem dX3_count_49 : decode cX3_count 49 = .ok (.goto (-45), 3) := by decide +kernel
theorem dX3_count_52 : decode cX3_count 52 = .ok (.iload_n 1, 1) := by decide +kernel
theorem dX3_count_53 : decode cX3_count 53 = .ok (.ireturn, 1) := by decide +kernel
theorem dX3_isSeed_0 : decode cX3_isSeed 0 = .ok (.iload_n 1, 1) := by decide +kernel
theorem dX3_isSeed_1 : decode cX3_isSeed 1 = .ok (.aload_n 0, 1) := by decide +kernel
theorem dX3_isSeed_2 : decode cX3_isSeed 2 = .ok (.getfield 9, 3) := by decide +kernel
theorem dX3_isSeed_5 : decode cX3_isSeed 5 = .ok (.iadd, 1) := by decide +kernel
theorem dX3_isSeed_6 : decode cX3_isSeed 6 = .ok (.aload_n 0, 1) := by decide +kernel
theorem dX3_isSeed_7 : decode cX3_isSeed 7 = .ok (.getfield 15, 3) := by decide +kernel
theorem dX3_isSeed_10 : decode cX3_isSeed 10 = .ok (.invokevirtual 22, 3) := by decide +kernel
theorem dX3_isSeed_13 : decode cX3_isSeed 13 = .ok (.if_icmp .gt 19, 3) := by decide +kernel
theorem dX3_isSeed_16 : decode cX3_isSeed 16 = .ok (.iload_n 2, 1) := by decide +kernel
theorem dX3_isSeed_17 : decode cX3_isSeed 17 = .ok (.aload_n 0, 1) := by decide +kernel
theorem dX3_isSeed_18 : decode cX3_isSeed 18 = .ok (.getfield 9, 3) := by decide +kernel
theorem dX3_isSeed_21 : decode cX3_isSeed 21 = .ok (.iadd, 1) := by decide +kernel
theorem dX3_isSeed_22 : decode cX3_isSeed 22 = .ok (.aload_n 0, 1) := by decide +kernel
theorem dX3_isSeed_23 : decode cX3_isSeed 23 = .ok (.getfield 19, 3) := by decide +kernel
theorem dX3_isSeed_26 : decode cX3_isSeed 26 = .ok (.invokevirtual 22, 3) := by decide +kernel
theorem dX3_isSeed_29 : decode cX3_isSeed 29 = .ok (.if_icmp .le 5, 3) := by decide +kernel
theorem dX3_isSeed_32 : decode cX3_isSeed 32 = .ok (.iconst 0, 1) := by decide +kernel
theorem dX3_isSeed_33 : decode cX3_isSeed 33 = .ok (.ireturn, 1) := by decide +kernel
theorem dX3_isSeed_34 : decode cX3_isSeed 34 = .ok (.iconst 0, 1) := by decide +kernel
theorem dX3_isSeed_35 : decode cX3_isSeed 35 = .ok (.istore_n 3, 1) := by decide +kernel
theorem dX3_isSeed_36 : decode cX3_isSeed 36 = .ok (.iload_n 3, 1) := by decide +kernel
theorem dX3_isSeed_37 : decode cX3_isSeed 37 = .ok (.aload_n 0, 1) := by decide +kernel
theorem dX3_isSeed_38 : decode cX3_isSeed 38 = .ok (.getfield 9, 3) := by decide +kernel
theorem dX3_isSeed_41 : decode cX3_isSeed 41 = .ok (.if_icmp .ge 34, 3) := by decide +kernel
theorem dX3_isSeed_44 : decode cX3_isSeed 44 = .ok (.aload_n 0, 1) := by decide +kernel
theorem dX3_isSeed_45 : decode cX3_isSeed 45 = .ok (.getfield 15, 3) := by decide +kernel
theorem dX3_isSeed_48 : decode cX3_isSeed 48 = .ok (.iload_n 1, 1) := by decide +kernel
theorem dX3_isSeed_49 : decode cX3_isSeed 49 = .ok (.iload_n 3, 1) := by decide +kernel
theorem dX3_isSeed_50 : decode cX3_isSeed 50 = .ok (.iadd, 1) := by decide +kernel
theorem dX3_isSeed_51 : decode cX3_isSeed 51 = .ok (.invokevirtual 28, 3) := by decide +kernel
theorem dX3_isSeed_54 : decode cX3_isSeed 54 = .ok (.aload_n 0, 1) := by decide +kernel
theorem dX3_isSeed_55 : decode cX3_isSeed 55 = .ok (.getfield 19, 3) := by decide +kernel
theorem dX3_isSeed_58 : decode cX3_isSeed 58 = .ok (.iload_n 2, 1) := by decide +kernel
theorem dX3_isSeed_59 : decode cX3_isSeed 59 = .ok (.iload_n 3, 1) := by decide +kernel
theorem dX3_isSeed_60 : decode cX3_isSeed 60 = .ok (.iadd, 1) := by decide +kernel
theorem dX3_isSeed_61 : decode cX3_isSeed 61 = .ok (.invokevirtual 28, 3) := by decide +kernel
theorem dX3_isSeed_64 : decode cX3_isSeed 64 = .ok (.if_icmp .eq 5, 3) := by decide +kernel
theorem dX3_isSeed_67 : decode cX3_isSeed 67 = .ok (.iconst 0, 1) := by decide +kernel
theorem dX3_isSeed_68 : decode cX3_isSeed 68 = .ok (.ireturn, 1) := by decide +kernel
theorem dX3_isSeed_69 : decode cX3_isSeed 69 = .ok (.iinc 3 1, 3) := by decide +kernel
theorem dX3_isSeed_72 : decode cX3_isSeed 72 = .ok (.goto (-36), 3) := by decide +kernel
theorem dX3_isSeed_75 : decode cX3_isSeed 75 = .ok (.iconst 1, 1) := by decide +kernel
theorem dX3_isSeed_76 : decode cX3_isSeed 76 = .ok (.ireturn, 1) := by decide +kernel
theorem dX3_pairAt_0 : decode cX3_pairAt 0 = .ok (.iconst 0, 1) := by decide +kernel
theorem dX3_pairAt_1 : decode cX3_pairAt 1 = .ok (.istore_n 2, 1) := by decide +kernel
theorem dX3_pairAt_2 : decode cX3_pairAt 2 = .ok (.iconst 0, 1) := by decide +kernel
theorem dX3_pairAt_3 : decode cX3_pairAt 3 = .ok (.istore_n 3, 1) := by decide +kernel
theorem dX3_pairAt_4 : decode cX3_pairAt 4 = .ok (.iload_n 3, 1) := by decide +kernel
theorem dX3_pairAt_5 : decode cX3_pairAt 5 = .ok (.aload_n 0, 1) := by decide +kernel
theorem dX3_pairAt_6 : decode cX3_pairAt 6 = .ok (.getfield 15, 3) := by decide +kernel
theorem dX3_pairAt_9 : decode cX3_pairAt 9 = .ok (.invokevirtual 22, 3) := by decide +kernel
theorem dX3_pairAt_12 : decode cX3_pairAt 12 = .ok (.if_icmp .ge 55, 3) := by decide +kernel
theorem dX3_pairAt_15 : decode cX3_pairAt 15 = .ok (.iconst 0, 1) := by decide +kernel
theorem dX3_pairAt_16 : decode cX3_pairAt 16 = .ok (.istore 4, 2) := by decide +kernel
theorem dX3_pairAt_18 : decode cX3_pairAt 18 = .ok (.iload 4, 2) := by decide +kernel
theorem dX3_pairAt_20 : decode cX3_pairAt 20 = .ok (.aload_n 0, 1) := by decide +kernel
theorem dX3_pairAt_21 : decode cX3_pairAt 21 = .ok (.getfield 19, 3) := by decide +kernel
theorem dX3_pairAt_24 : decode cX3_pairAt 24 = .ok (.invokevirtual 22, 3) := by decide +kernel
theorem dX3_pairAt_27 : decode cX3_pairAt 27 = .ok (.if_icmp .ge 34, 3) := by decide +kernel
theorem dX3_pairAt_30 : decode cX3_pairAt 30 = .ok (.aload_n 0, 1) := by decide +kernel
theorem dX3_pairAt_31 : decode cX3_pairAt 31 = .ok (.iload_n 3, 1) := by decide +kernel
theorem dX3_pairAt_32 : decode cX3_pairAt 32 = .ok (.iload 4, 2) := by decide +kernel
theorem dX3_pairAt_34 : decode cX3_pairAt 34 = .ok (.invokevirtual 32, 3) := by decide +kernel
theorem dX3_pairAt_37 : decode cX3_pairAt 37 = .ok (.ifCond .eq 18, 3) := by decide +kernel
theorem dX3_pairAt_40 : decode cX3_pairAt 40 = .ok (.iload_n 2, 1) := by decide +kernel
theorem dX3_pairAt_41 : decode cX3_pairAt 41 = .ok (.iload_n 1, 1) := by decide +kernel
theorem dX3_pairAt_42 : decode cX3_pairAt 42 = .ok (.if_icmp .ne 10, 3) := by decide +kernel
theorem dX3_pairAt_45 : decode cX3_pairAt 45 = .ok (.iload_n 3, 1) := by decide +kernel
theorem dX3_pairAt_46 : decode cX3_pairAt 46 = .ok (.iload 4, 2) := by decide +kernel
theorem dX3_pairAt_48 : decode cX3_pairAt 48 = .ok (.invokestatic 36, 3) := by decide +kernel
theorem dX3_pairAt_51 : decode cX3_pairAt 51 = .ok (.ireturn, 1) := by decide +kernel
theorem dX3_pairAt_52 : decode cX3_pairAt 52 = .ok (.iinc 2 1, 3) := by decide +kernel
theorem dX3_pairAt_55 : decode cX3_pairAt 55 = .ok (.iinc 4 1, 3) := by decide +kernel
theorem dX3_pairAt_58 : decode cX3_pairAt 58 = .ok (.goto (-40), 3) := by decide +kernel
theorem dX3_pairAt_61 : decode cX3_pairAt 61 = .ok (.iinc 3 1, 3) := by decide +kernel
theorem dX3_pairAt_64 : decode cX3_pairAt 64 = .ok (.goto (-60), 3) := by decide +kernel
theorem dX3_pairAt_67 : decode cX3_pairAt 67 = .ok (.iconst (-1), 1) := by decide +kernel
theorem dX3_pairAt_68 : decode cX3_pairAt 68 = .ok (.ireturn, 1) := by decide +kernel
theorem dX3_firstSize_0 : decode cX3_firstSize 0 = .ok (.aload_n 0, 1) := by decide +kernel
theorem dX3_firstSize_1 : decode cX3_firstSize 1 = .ok (.getfield 15, 3) := by decide +kernel
theorem dX3_firstSize_4 : decode cX3_firstSize 4 = .ok (.invokevirtual 22, 3) := by decide +kernel
theorem dX3_firstSize_7 : decode cX3_firstSize 7 = .ok (.ireturn, 1) := by decide +kernel
theorem dX3_secondSize_0 : decode cX3_secondSize 0 = .ok (.aload_n 0, 1) := by decide +kernel
theorem dX3_secondSize_1 : decode cX3_secondSize 1 = .ok (.getfield 19, 3) := by decide +kernel
theorem dX3_secondSize_4 : decode cX3_secondSize 4 = .ok (.invokevirtual 22, 3) := by decide +kernel
theorem dX3_secondSize_7 : decode cX3_secondSize 7 = .ok (.ireturn, 1) := by decide +kernel
theorem dX3_length_0 : decode cX3_length 0 = .ok (.aload_n 0, 1) := by decide +kernel
theorem dX3_length_1 : decode cX3_length 1 = .ok (.getfield 9, 3) := by decide +kernel
theorem dX3_length_4 : decode cX3_length 4 = .ok (.ireturn, 1) := by decide +kernel
