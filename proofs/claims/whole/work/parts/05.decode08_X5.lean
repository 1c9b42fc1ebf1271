theorem dX5_learn_293 : decode cX5_learn 293 = .ok (.aload_n 0, 1) := by decide +kernel
theorem dX5_learn_294 : decode cX5_learn 294 = .ok (.dup, 1) := by decide +kernel
theorem dX5_learn_295 : decode cX5_learn 295 = .ok (.getfield 72, 3) := by decide +kernel
theorem dX5_learn_298 : decode cX5_learn 298 = .ok (.iconst 1, 1) := by decide +kernel
theorem dX5_learn_299 : decode cX5_learn 299 = .ok (.iadd, 1) := by decide +kernel
theorem dX5_learn_300 : decode cX5_learn 300 = .ok (.putfield 72, 3) := by decide +kernel
theorem dX5_learn_303 : decode cX5_learn 303 = .ok (.aload_n 0, 1) := by decide +kernel
theorem dX5_learn_304 : decode cX5_learn 304 = .ok (.getfield 41, 3) := by decide +kernel
theorem dX5_learn_307 : decode cX5_learn 307 = .ok (.iload_n 3, 1) := by decide +kernel
theorem dX5_learn_308 : decode cX5_learn 308 = .ok (.iaload, 1) := by decide +kernel
theorem dX5_learn_309 : decode cX5_learn 309 = .ok (.bipush 10, 2) := by decide +kernel
theorem dX5_learn_311 : decode cX5_learn 311 = .ok (.aload_n 0, 1) := by decide +kernel
theorem dX5_learn_312 : decode cX5_learn 312 = .ok (.getfield 16, 3) := by decide +kernel
theorem dX5_learn_315 : decode cX5_learn 315 = .ok (.imul, 1) := by decide +kernel
theorem dX5_learn_316 : decode cX5_learn 316 = .ok (.isub, 1) := by decide +kernel
theorem dX5_learn_317 : decode cX5_learn 317 = .ok (.istore_n 1, 1) := by decide +kernel
theorem dX5_learn_318 : decode cX5_learn 318 = .ok (.iload_n 3, 1) := by decide +kernel
theorem dX5_learn_319 : decode cX5_learn 319 = .ok (.istore_n 2, 1) := by decide +kernel
theorem dX5_learn_320 : decode cX5_learn 320 = .ok (.iinc 3 1, 3) := by decide +kernel
theorem dX5_learn_323 : decode cX5_learn 323 = .ok (.goto (-83), 3) := by decide +kernel
theorem dX5_learn_326 : decode cX5_learn 326 = .ok (.return_, 1) := by decide +kernel
theorem dX5_isAnchor_0 : decode cX5_isAnchor 0 = .ok (.iload_n 1, 1) := by decide +kernel
theorem dX5_isAnchor_1 : decode cX5_isAnchor 1 = .ok (.aload_n 0, 1) := by decide +kernel
theorem dX5_isAnchor_2 : decode cX5_isAnchor 2 = .ok (.getfield 16, 3) := by decide +kernel
theorem dX5_isAnchor_5 : decode cX5_isAnchor 5 = .ok (.iadd, 1) := by decide +kernel
theorem dX5_isAnchor_6 : decode cX5_isAnchor 6 = .ok (.aload_n 0, 1) := by decide +kernel
theorem dX5_isAnchor_7 : decode cX5_isAnchor 7 = .ok (.getfield 13, 3) := by decide +kernel
theorem dX5_isAnchor_10 : decode cX5_isAnchor 10 = .ok (.iconst 0, 1) := by decide +kernel
theorem dX5_isAnchor_11 : decode cX5_isAnchor 11 = .ok (.iaload, 1) := by decide +kernel
theorem dX5_isAnchor_12 : decode cX5_isAnchor 12 = .ok (.if_icmp .gt 22, 3) := by decide +kernel
theorem dX5_isAnchor_15 : decode cX5_isAnchor 15 = .ok (.iload_n 2, 1) := by decide +kernel
theorem dX5_isAnchor_16 : decode cX5_isAnchor 16 = .ok (.aload_n 0, 1) := by decide +kernel
theorem dX5_isAnchor_17 : decode cX5_isAnchor 17 = .ok (.getfield 16, 3) := by decide +kernel
theorem dX5_isAnchor_20 : decode cX5_isAnchor 20 = .ok (.iadd, 1) := by decide +kernel
theorem dX5_isAnchor_21 : decode cX5_isAnchor 21 = .ok (.aload_n 0, 1) := by decide +kernel
theorem dX5_isAnchor_22 : decode cX5_isAnchor 22 = .ok (.getfield 13, 3) := by decide +kernel
theorem dX5_isAnchor_25 : decode cX5_isAnchor 25 = .ok (.iconst 1, 1) := by decide +kernel
theorem dX5_isAnchor_26 : decode cX5_isAnchor 26 = .ok (.iaload, 1) := by decide +kernel
theorem dX5_isAnchor_27 : decode cX5_isAnchor 27 = .ok (.if_icmp .gt 7, 3) := by decide +kernel
theorem dX5_isAnchor_30 : decode cX5_isAnchor 30 = .ok (.iconst 1, 1) := by decide +kernel
theorem dX5_isAnchor_31 : decode cX5_isAnchor 31 = .ok (.goto 4, 3) := by decide +kernel
theorem dX5_isAnchor_34 : decode cX5_isAnchor 34 = .ok (.iconst 0, 1) := by decide +kernel
theorem dX5_isAnchor_35 : decode cX5_isAnchor 35 = .ok (.istore_n 3, 1) := by decide +kernel
theorem dX5_isAnchor_36 : decode cX5_isAnchor 36 = .ok (.iconst 0, 1) := by decide +kernel
theorem dX5_isAnchor_37 : decode cX5_isAnchor 37 = .ok (.istore 4, 2) := by decide +kernel
theorem dX5_isAnchor_39 : decode cX5_isAnchor 39 = .ok (.iload 4, 2) := by decide +kernel
theorem dX5_isAnchor_41 : decode cX5_isAnchor 41 = .ok (.aload_n 0, 1) := by decide +kernel
theorem dX5_isAnchor_42 : decode cX5_isAnchor 42 = .ok (.getfield 16, 3) := by decide +kernel
theorem dX5_isAnchor_45 : decode cX5_isAnchor 45 = .ok (.if_icmp .ge 43, 3) := by decide +kernel
theorem dX5_isAnchor_48 : decode cX5_isAnchor 48 = .ok (.iload_n 3, 1) := by decide +kernel
theorem dX5_isAnchor_49 : decode cX5_isAnchor 49 = .ok (.ifCond .eq 39, 3) := by decide +kernel
theorem dX5_isAnchor_52 : decode cX5_isAnchor 52 = .ok (.aload_n 0, 1) := by decide +kernel
theorem dX5_isAnchor_53 : decode cX5_isAnchor 53 = .ok (.getfield 7, 3) := by decide +kernel
theorem dX5_isAnchor_56 : decode cX5_isAnchor 56 = .ok (.iload_n 1, 1) := by decide +kernel
theorem dX5_isAnchor_57 : decode cX5_isAnchor 57 = .ok (.iload 4, 2) := by decide +kernel
theorem dX5_isAnchor_59 : decode cX5_isAnchor 59 = .ok (.iadd, 1) := by decide +kernel
theorem dX5_isAnchor_60 : decode cX5_isAnchor 60 = .ok (.iaload, 1) := by decide +kernel
theorem dX5_isAnchor_61 : decode cX5_isAnchor 61 = .ok (.aload_n 0, 1) := by decide +kernel
theorem dX5_isAnchor_62 : decode cX5_isAnchor 62 = .ok (.getfield 7, 3) := by decide +kernel
theorem dX5_isAnchor_65 : decode cX5_isAnchor 65 = .ok (.bipush 48, 2) := by decide +kernel
theorem dX5_isAnchor_67 : decode cX5_isAnchor 67 = .ok (.iload_n 2, 1) := by decide +kernel
theorem dX5_isAnchor_68 : decode cX5_isAnchor 68 = .ok (.iadd, 1) := by decide +kernel
theorem dX5_isAnchor_69 : decode cX5_isAnchor 69 = .ok (.iload 4, 2) := by decide +kernel
theorem dX5_isAnchor_71 : decode cX5_isAnchor 71 = .ok (.iadd, 1) := by decide +kernel
theorem dX5_isAnchor_72 : decode cX5_isAnchor 72 = .ok (.iaload, 1) := by decide +kernel
theorem dX5_isAnchor_73 : decode cX5_isAnchor 73 = .ok (.if_icmp .ne 7, 3) := by decide +kernel
theorem dX5_isAnchor_76 : decode cX5_isAnchor 76 = .ok (.iconst 1, 1) := by decide +kernel
theorem dX5_isAnchor_77 : decode cX5_isAnchor 77 = .ok (.goto 4, 3) := by decide +kernel
theorem dX5_isAnchor_80 : decode cX5_isAnchor 80 = .ok (.iconst 0, 1) := by decide +kernel
theorem dX5_isAnchor_81 : decode cX5_isAnchor 81 = .ok (.istore_n 3, 1) := by decide +kernel
theorem dX5_isAnchor_82 : decode cX5_isAnchor 82 = .ok (.iinc 4 1, 3) := by decide +kernel
theorem dX5_isAnchor_85 : decode cX5_isAnchor 85 = .ok (.goto (-46), 3) := by decide +kernel
theorem dX5_isAnchor_88 : decode cX5_isAnchor 88 = .ok (.iload_n 3, 1) := by decide +kernel
theorem dX5_isAnchor_89 : decode cX5_isAnchor 89 = .ok (.ireturn, 1) := by decide +kernel
theorem dX5_between_0 : decode cX5_between 0 = .ok (.aload_n 0, 1) := by decide +kernel
theorem dX5_between_1 : decode cX5_between 1 = .ok (.getfield 35, 3) := by decide +kernel
theorem dX5_between_4 : decode cX5_between 4 = .ok (.iload_n 2, 1) := by decide +kernel
theorem dX5_between_5 : decode cX5_between 5 = .ok (.iaload, 1) := by decide +kernel
theorem dX5_between_6 : decode cX5_between 6 = .ok (.aload_n 0, 1) := by decide +kernel
theorem dX5_between_7 : decode cX5_between 7 = .ok (.getfield 35, 3) := by decide +kernel
theorem dX5_between_10 : decode cX5_between 10 = .ok (.iload_n 1, 1) := by decide +kernel
theorem dX5_between_11 : decode cX5_between 11 = .ok (.iaload, 1) := by decide +kernel
theorem dX5_between_12 : decode cX5_between 12 = .ok (.isub, 1) := by decide +kernel
theorem dX5_between_13 : decode cX5_between 13 = .ok (.aload_n 0, 1) := by decide +kernel
theorem dX5_between_14 : decode cX5_between 14 = .ok (.getfield 16, 3) := by decide +kernel
theorem dX5_between_17 : decode cX5_between 17 = .ok (.isub, 1) := by decide +kernel
theorem dX5_between_18 : decode cX5_between 18 = .ok (.istore_n 3, 1) := by decide +kernel
theorem dX5_between_19 : decode cX5_between 19 = .ok (.aload_n 0, 1) := by decide +kernel
theorem dX5_between_20 : decode cX5_between 20 = .ok (.getfield 38, 3) := by decide +kernel
theorem dX5_between_23 : decode cX5_between 23 = .ok (.iload_n 2, 1) := by decide +kernel
theorem dX5_between_24 : decode cX5_between 24 = .ok (.iaload, 1) := by decide +kernel
theorem dX5_between_25 : decode cX5_between 25 = .ok (.aload_n 0, 1) := by decide +kernel
theorem dX5_between_26 : decode cX5_between 26 = .ok (.getfield 38, 3) := by decide +kernel
theorem dX5_between_29 : decode cX5_between 29 = .ok (.iload_n 1, 1) := by decide +kernel
theorem dX5_between_30 : decode cX5_between 30 = .ok (.iaload, 1) := by decide +kernel
theorem dX5_between_31 : decode cX5_between 31 = .ok (.isub, 1) := by decide +kernel
theorem dX5_between_32 : decode cX5_between 32 = .ok (.aload_n 0, 1) := by decide +kernel
theorem dX5_between_33 : decode cX5_between 33 = .ok (.getfield 16, 3) := by decide +kernel
theorem dX5_between_36 : decode cX5_between 36 = .ok (.isub, 1) := by decide +kernel
theorem dX5_between_37 : decode cX5_between 37 = .ok (.istore 4, 2) := by decide +kernel
theorem dX5_between_39 : decode cX5_between 39 = .ok (.iload_n 3, 1) := by decide +kernel
theorem dX5_between_40 : decode cX5_between 40 = .ok (.ifCond .lt 8, 3) := by decide +kernel
theorem dX5_between_43 : decode cX5_between 43 = .ok (.iload 4, 2) := by decide +kernel
theorem dX5_between_45 : decode cX5_between 45 = .ok (.ifCond .ge 7, 3) := by decide +kernel
theorem dX5_between_48 : decode cX5_between 48 = .ok (.iconst (-1), 1) := by decide +kernel
theorem dX5_between_49 : decode cX5_between 49 = .ok (.goto 7, 3) := by decide +kernel
theorem dX5_between_52 : decode cX5_between 52 = .ok (.iload_n 3, 1) := by decide +kernel
theorem dX5_between_53 : decode cX5_between 53 = .ok (.iload 4, 2) := by decide +kernel
theorem dX5_between_55 : decode cX5_between 55 = .ok (.iadd, 1) := by decide +kernel
theorem dX5_between_56 : decode cX5_between 56 = .ok (.ireturn, 1) := by decide +kernel
theorem dX5_anchor_0 : decode cX5_anchor 0 = .ok (.aload_n 0, 1) := by decide +kernel
theorem dX5_anchor_1 : decode cX5_anchor 1 = .ok (.invokevirtual 75, 3) := by decide +kernel
theorem dX5_anchor_4 : decode cX5_anchor 4 = .ok (.iload_n 1, 1) := by decide +kernel
theorem dX5_anchor_5 : decode cX5_anchor 5 = .ok (.ifCond .lt 20, 3) := by decide +kernel
theorem dX5_anchor_8 : decode cX5_anchor 8 = .ok (.iload_n 1, 1) := by decide +kernel
theorem dX5_anchor_9 : decode cX5_anchor 9 = .ok (.aload_n 0, 1) := by decide +kernel
theorem dX5_anchor_10 : decode cX5_anchor 10 = .ok (.getfield 58, 3) := by decide +kernel
theorem dX5_anchor_13 : decode cX5_anchor 13 = .ok (.if_icmp .ge 12, 3) := by decide +kernel
theorem dX5_anchor_16 : decode cX5_anchor 16 = .ok (.iload_n 2, 1) := by decide +kernel
theorem dX5_anchor_17 : decode cX5_anchor 17 = .ok (.ifCond .lt 8, 3) := by decide +kernel
theorem dX5_anchor_20 : decode cX5_anchor 20 = .ok (.iload_n 2, 1) := by decide +kernel
theorem dX5_anchor_21 : decode cX5_anchor 21 = .ok (.iconst 1, 1) := by decide +kernel
theorem dX5_anchor_22 : decode cX5_anchor 22 = .ok (.if_icmp .le 5, 3) := by decide +kernel
theorem dX5_anchor_25 : decode cX5_anchor 25 = .ok (.iconst (-1), 1) := by decide +kernel
theorem dX5_anchor_26 : decode cX5_anchor 26 = .ok (.ireturn, 1) := by decide +kernel
theorem dX5_anchor_27 : decode cX5_anchor 27 = .ok (.iload_n 2, 1) := by decide +kernel
theorem dX5_anchor_28 : decode cX5_anchor 28 = .ok (.ifCond .ne 12, 3) := by decide +kernel
theorem dX5_anchor_31 : decode cX5_anchor 31 = .ok (.aload_n 0, 1) := by decide +kernel
theorem dX5_anchor_32 : decode cX5_anchor 32 = .ok (.getfield 35, 3) := by decide +kernel
theorem dX5_anchor_35 : decode cX5_anchor 35 = .ok (.iload_n 1, 1) := by decide +kernel
theorem dX5_anchor_36 : decode cX5_anchor 36 = .ok (.iaload, 1) := by decide +kernel
theorem dX5_anchor_37 : decode cX5_anchor 37 = .ok (.goto 9, 3) := by decide +kernel
theorem dX5_anchor_40 : decode cX5_anchor 40 = .ok (.aload_n 0, 1) := by decide +kernel
theorem dX5_anchor_41 : decode cX5_anchor 41 = .ok (.getfield 38, 3) := by decide +kernel
theorem dX5_anchor_44 : decode cX5_anchor 44 = .ok (.iload_n 1, 1) := by decide +kernel
theorem dX5_anchor_45 : decode cX5_anchor 45 = .ok (.iaload, 1) := by decide +kernel
theorem dX5_anchor_46 : decode cX5_anchor 46 = .ok (.ireturn, 1) := by decide +kernel
theorem dX5_chain_0 : decode cX5_chain 0 = .ok (.aload_n 0, 1) := by decide +kernel
theorem dX5_chain_1 : decode cX5_chain 1 = .ok (.invokevirtual 75, 3) := by decide +kernel
theorem dX5_chain_4 : decode cX5_chain 4 = .ok (.aload_n 0, 1) := by decide +kernel
theorem dX5_chain_5 : decode cX5_chain 5 = .ok (.getfield 65, 3) := by decide +kernel
theorem dX5_chain_8 : decode cX5_chain 8 = .ok (.ireturn, 1) := by decide +kernel
theorem dX5_links_0 : decode cX5_links 0 = .ok (.aload_n 0, 1) := by decide +kernel
theorem dX5_links_1 : decode cX5_links 1 = .ok (.invokevirtual 75, 3) := by decide +kernel
theorem dX5_links_4 : decode cX5_links 4 = .ok (.aload_n 0, 1) := by decide +kernel
theorem dX5_links_5 : decode cX5_links 5 = .ok (.getfield 72, 3) := by decide +kernel
theorem dX5_links_8 : decode cX5_links 8 = .ok (.ireturn, 1) := by decide +kernel
theorem dX5_link_0 : decode cX5_link 0 = .ok (.aload_n 0, 1) := by decide +kernel
theorem dX5_link_1 : decode cX5_link 1 = .ok (.invokevirtual 75, 3) := by decide +kernel
theorem dX5_link_4 : decode cX5_link 4 = .ok (.iload_n 1, 1) := by decide +kernel
theorem dX5_link_5 : decode cX5_link 5 = .ok (.ifCond .lt 20, 3) := by decide +kernel
theorem dX5_link_8 : decode cX5_link 8 = .ok (.iload_n 1, 1) := by decide +kernel
theorem dX5_link_9 : decode cX5_link 9 = .ok (.aload_n 0, 1) := by decide +kernel
theorem dX5_link_10 : decode cX5_link 10 = .ok (.getfield 72, 3) := by decide +kernel
theorem dX5_link_13 : decode cX5_link 13 = .ok (.if_icmp .ge 12, 3) := by decide +kernel
theorem dX5_link_16 : decode cX5_link 16 = .ok (.iload_n 2, 1) := by decide +kernel
theorem dX5_link_17 : decode cX5_link 17 = .ok (.ifCond .lt 8, 3) := by decide +kernel
theorem dX5_link_20 : decode cX5_link 20 = .ok (.iload_n 2, 1) := by decide +kernel
theorem dX5_link_21 : decode cX5_link 21 = .ok (.iconst 1, 1) := by decide +kernel
theorem dX5_link_22 : decode cX5_link 22 = .ok (.if_icmp .le 5, 3) := by decide +kernel
theorem dX5_link_25 : decode cX5_link 25 = .ok (.iconst (-1), 1) := by decide +kernel
theorem dX5_link_26 : decode cX5_link 26 = .ok (.ireturn, 1) := by decide +kernel
theorem dX5_link_27 : decode cX5_link 27 = .ok (.iload_n 2, 1) := by decide +kernel
theorem dX5_link_28 : decode cX5_link 28 = .ok (.ifCond .ne 17, 3) := by decide +kernel
theorem dX5_link_31 : decode cX5_link 31 = .ok (.aload_n 0, 1) := by decide +kernel
theorem dX5_link_32 : decode cX5_link 32 = .ok (.getfield 35, 3) := by decide +kernel
theorem dX5_link_35 : decode cX5_link 35 = .ok (.aload_n 0, 1) := by decide +kernel
theorem dX5_link_36 : decode cX5_link 36 = .ok (.getfield 44, 3) := by decide +kernel
theorem dX5_link_39 : decode cX5_link 39 = .ok (.iload_n 1, 1) := by decide +kernel
theorem dX5_link_40 : decode cX5_link 40 = .ok (.iaload, 1) := by decide +kernel
theorem dX5_link_41 : decode cX5_link 41 = .ok (.iaload, 1) := by decide +kernel
theorem dX5_link_42 : decode cX5_link 42 = .ok (.goto 14, 3) := by decide +kernel
theorem dX5_link_45 : decode cX5_link 45 = .ok (.aload_n 0, 1) := by decide +kernel
theorem dX5_link_46 : decode cX5_link 46 = .ok (.getfield 38, 3) := by decide +kernel
theorem dX5_link_49 : decode cX5_link 49 = .ok (.aload_n 0, 1) := by decide +kernel
theorem dX5_link_50 : decode cX5_link 50 = .ok (.getfield 44, 3) := by decide +kernel
theorem dX5_link_53 : decode cX5_link 53 = .ok (.iload_n 1, 1) := by decide +kernel
theorem dX5_link_54 : decode cX5_link 54 = .ok (.iaload, 1) := by decide +kernel
theorem dX5_link_55 : decode cX5_link 55 = .ok (.iaload, 1) := by decide +kernel
theorem dX5_link_56 : decode cX5_link 56 = .ok (.ireturn, 1) := by decide +kernel
theorem dX5_reach_0 : decode cX5_reach 0 = .ok (.iload_n 1, 1) := by decide +kernel
theorem dX5_reach_1 : decode cX5_reach 1 = .ok (.ifCond .lt 27, 3) := by decide +kernel
theorem dX5_reach_4 : decode cX5_reach 4 = .ok (.iload_n 2, 1) := by decide +kernel
theorem dX5_reach_5 : decode cX5_reach 5 = .ok (.ifCond .lt 23, 3) := by decide +kernel
theorem dX5_reach_8 : decode cX5_reach 8 = .ok (.iload_n 1, 1) := by decide +kernel
theorem dX5_reach_9 : decode cX5_reach 9 = .ok (.aload_n 0, 1) := by decide +kernel
theorem dX5_reach_10 : decode cX5_reach 10 = .ok (.getfield 13, 3) := by decide +kernel
theorem dX5_reach_13 : decode cX5_reach 13 = .ok (.iconst 0, 1) := by decide +kernel
theorem dX5_reach_14 : decode cX5_reach 14 = .ok (.iaload, 1) := by decide +kernel
theorem dX5_reach_15 : decode cX5_reach 15 = .ok (.if_icmp .gt 13, 3) := by decide +kernel
theorem dX5_reach_18 : decode cX5_reach 18 = .ok (.iload_n 2, 1) := by decide +kernel
theorem dX5_reach_19 : decode cX5_reach 19 = .ok (.aload_n 0, 1) := by decide +kernel
theorem dX5_reach_20 : decode cX5_reach 20 = .ok (.getfield 13, 3) := by decide +kernel
theorem dX5_reach_23 : decode cX5_reach 23 = .ok (.iconst 1, 1) := by decide +kernel
theorem dX5_reach_24 : decode cX5_reach 24 = .ok (.iaload, 1) := by decide +kernel
theorem dX5_reach_25 : decode cX5_reach 25 = .ok (.if_icmp .le 5, 3) := by decide +kernel
theorem dX5_reach_28 : decode cX5_reach 28 = .ok (.iconst (-1), 1) := by decide +kernel
theorem dX5_reach_29 : decode cX5_reach 29 = .ok (.ireturn, 1) := by decide +kernel
theorem dX5_reach_30 : decode cX5_reach 30 = .ok (.aload_n 0, 1) := by decide +kernel
theorem dX5_reach_31 : decode cX5_reach 31 = .ok (.getfield 13, 3) := by decide +kernel
theorem dX5_reach_34 : decode cX5_reach 34 = .ok (.iconst 0, 1) := by decide +kernel
theorem dX5_reach_35 : decode cX5_reach 35 = .ok (.iaload, 1) := by decide +kernel
theorem dX5_reach_36 : decode cX5_reach 36 = .ok (.iload_n 1, 1) := by decide +kernel
theorem dX5_reach_37 : decode cX5_reach 37 = .ok (.isub, 1) := by decide +kernel
theorem dX5_reach_38 : decode cX5_reach 38 = .ok (.istore_n 3, 1) := by decide +kernel
theorem dX5_reach_39 : decode cX5_reach 39 = .ok (.aload_n 0, 1) := by decide +kernel
theorem dX5_reach_40 : decode cX5_reach 40 = .ok (.getfield 13, 3) := by decide +kernel
theorem dX5_reach_43 : decode cX5_reach 43 = .ok (.iconst 1, 1) := by decide +kernel
theorem dX5_reach_44 : decode cX5_reach 44 = .ok (.iaload, 1) := by decide +kernel
theorem dX5_reach_45 : decode cX5_reach 45 = .ok (.iload_n 2, 1) := by decide +kernel
theorem dX5_reach_46 : decode cX5_reach 46 = .ok (.isub, 1) := by decide +kernel
theorem dX5_reach_47 : decode cX5_reach 47 = .ok (.istore 4, 2) := by decide +kernel
theorem dX5_reach_49 : decode cX5_reach 49 = .ok (.aload_n 0, 1) := by decide +kernel
theorem dX5_reach_50 : decode cX5_reach 50 = .ok (.iconst 1, 1) := by decide +kernel
theorem dX5_reach_51 : decode cX5_reach 51 = .ok (.putfield 79, 3) := by decide +kernel
theorem dX5_reach_54 : decode cX5_reach 54 = .ok (.aload_n 0, 1) := by decide +kernel
theorem dX5_reach_55 : decode cX5_reach 55 = .ok (.iconst 0, 1) := by decide +kernel
theorem dX5_reach_56 : decode cX5_reach 56 = .ok (.putfield 82, 3) := by decide +kernel
theorem dX5_reach_59 : decode cX5_reach 59 = .ok (.aload_n 0, 1) := by decide +kernel
theorem dX5_reach_60 : decode cX5_reach 60 = .ok (.iconst 0, 1) := by decide +kernel
theorem dX5_reach_61 : decode cX5_reach 61 = .ok (.putfield 85, 3) := by decide +kernel
theorem dX5_reach_64 : decode cX5_reach 64 = .ok (.aload_n 0, 1) := by decide +kernel
theorem dX5_reach_65 : decode cX5_reach 65 = .ok (.iconst 1, 1) := by decide +kernel
theorem dX5_reach_66 : decode cX5_reach 66 = .ok (.putfield 88, 3) := by decide +kernel
theorem dX5_reach_69 : decode cX5_reach 69 = .ok (.aload_n 0, 1) := by decide +kernel
theorem dX5_reach_70 : decode cX5_reach 70 = .ok (.iconst 0, 1) := by decide +kernel
theorem dX5_reach_71 : decode cX5_reach 71 = .ok (.putfield 91, 3) := by decide +kernel
theorem dX5_reach_74 : decode cX5_reach 74 = .ok (.iconst 0, 1) := by decide +kernel
theorem dX5_reach_75 : decode cX5_reach 75 = .ok (.istore 5, 2) := by decide +kernel
theorem dX5_reach_77 : decode cX5_reach 77 = .ok (.iconst 0, 1) := by decide +kernel
theorem dX5_reach_78 : decode cX5_reach 78 = .ok (.istore 6, 2) := by decide +kernel
theorem dX5_reach_80 : decode cX5_reach 80 = .ok (.iload 6, 2) := by decide +kernel
theorem dX5_reach_82 : decode cX5_reach 82 = .ok (.iload_n 3, 1) := by decide +kernel
theorem dX5_reach_83 : decode cX5_reach 83 = .ok (.iload 4, 2) := by decide +kernel
theorem dX5_reach_85 : decode cX5_reach 85 = .ok (.iadd, 1) := by decide +kernel
theorem dX5_reach_86 : decode cX5_reach 86 = .ok (.if_icmp .gt 333, 3) := by decide +kernel
theorem dX5_reach_89 : decode cX5_reach 89 = .ok (.iload 5, 2) := by decide +kernel
theorem dX5_reach_91 : decode cX5_reach 91 = .ok (.istore 7, 2) := by decide +kernel
theorem dX5_reach_93 : decode cX5_reach 93 = .ok (.iconst 0, 1) := by decide +kernel
theorem dX5_reach_94 : decode cX5_reach 94 = .ok (.istore 8, 2) := by decide +kernel
theorem dX5_reach_96 : decode cX5_reach 96 = .ok (.iload 8, 2) := by decide +kernel
theorem dX5_reach_98 : decode cX5_reach 98 = .ok (.iload_n 3, 1) := by decide +kernel
theorem dX5_reach_99 : decode cX5_reach 99 = .ok (.if_icmp .gt 314, 3) := by decide +kernel
theorem dX5_reach_102 : decode cX5_reach 102 = .ok (.iload 8, 2) := by decide +kernel
theorem dX5_reach_104 : decode cX5_reach 104 = .ok (.iload 6, 2) := by decide +kernel
theorem dX5_reach_106 : decode cX5_reach 106 = .ok (.if_icmp .gt 307, 3) := by decide +kernel
theorem dX5_reach_109 : decode cX5_reach 109 = .ok (.iload 6, 2) := by decide +kernel
theorem dX5_reach_111 : decode cX5_reach 111 = .ok (.iload 8, 2) := by decide +kernel
theorem dX5_reach_113 : decode cX5_reach 113 = .ok (.isub, 1) := by decide +kernel
theorem dX5_reach_114 : decode cX5_reach 114 = .ok (.istore 9, 2) := by decide +kernel
theorem dX5_reach_116 : decode cX5_reach 116 = .ok (.iload 9, 2) := by decide +kernel
theorem dX5_reach_118 : decode cX5_reach 118 = .ok (.iload 4, 2) := by decide +kernel
theorem dX5_reach_120 : decode cX5_reach 120 = .ok (.if_icmp .le 6, 3) := by decide +kernel
theorem dX5_reach_123 : decode cX5_reach 123 = .ok (.goto 284, 3) := by decide +kernel
theorem dX5_reach_126 : decode cX5_reach 126 = .ok (.iload 6, 2) := by decide +kernel
theorem dX5_reach_128 : decode cX5_reach 128 = .ok (.ifCond .ne 7, 3) := by decide +kernel
theorem dX5_reach_131 : decode cX5_reach 131 = .ok (.iconst 0, 1) := by decide +kernel
theorem dX5_reach_132 : decode cX5_reach 132 = .ok (.goto 5, 3) := by decide +kernel
theorem dX5_reach_135 : decode cX5_reach 135 = .ok (.ldc 78, 2) := by decide +kernel
theorem dX5_reach_137 : decode cX5_reach 137 = .ok (.istore 10, 2) := by decide +kernel
theorem dX5_reach_139 : decode cX5_reach 139 = .ok (.iload 8, 2) := by decide +kernel
theorem dX5_reach_141 : decode cX5_reach 141 = .ok (.ifCond .le 92, 3) := by decide +kernel
theorem dX5_reach_144 : decode cX5_reach 144 = .ok (.iload 9, 2) := by decide +kernel
theorem dX5_reach_146 : decode cX5_reach 146 = .ok (.ifCond .le 87, 3) := by decide +kernel
theorem dX5_reach_149 : decode cX5_reach 149 = .ok (.aload_n 0, 1) := by decide +kernel
theorem dX5_reach_150 : decode cX5_reach 150 = .ok (.iload 8, 2) := by decide +kernel
theorem dX5_reach_152 : decode cX5_reach 152 = .ok (.iconst 1, 1) := by decide +kernel
theorem dX5_reach_153 : decode cX5_reach 153 = .ok (.isub, 1) := by decide +kernel
theorem dX5_reach_154 : decode cX5_reach 154 = .ok (.iload 9, 2) := by decide +kernel
theorem dX5_reach_156 : decode cX5_reach 156 = .ok (.iconst 1, 1) := by decide +kernel
theorem dX5_reach_157 : decode cX5_reach 157 = .ok (.isub, 1) := by decide +kernel
theorem dX5_reach_158 : decode cX5_reach 158 = .ok (.invokevirtual 94, 3) := by decide +kernel
theorem dX5_reach_161 : decode cX5_reach 161 = .ok (.ldc 78, 2) := by decide +kernel
theorem dX5_reach_163 : decode cX5_reach 163 = .ok (.if_icmp .le 70, 3) := by decide +kernel
theorem dX5_reach_166 : decode cX5_reach 166 = .ok (.aload_n 0, 1) := by decide +kernel
theorem dX5_reach_167 : decode cX5_reach 167 = .ok (.getfield 7, 3) := by decide +kernel
theorem dX5_reach_170 : decode cX5_reach 170 = .ok (.iload_n 1, 1) := by decide +kernel
theorem dX5_reach_171 : decode cX5_reach 171 = .ok (.iload 8, 2) := by decide +kernel
theorem dX5_reach_173 : decode cX5_reach 173 = .ok (.iadd, 1) := by decide +kernel
theorem dX5_reach_174 : decode cX5_reach 174 = .ok (.iconst 1, 1) := by decide +kernel
theorem dX5_reach_175 : decode cX5_reach 175 = .ok (.isub, 1) := by decide +kernel
theorem dX5_reach_176 : decode cX5_reach 176 = .ok (.iaload, 1) := by decide +kernel
theorem dX5_reach_177 : decode cX5_reach 177 = .ok (.aload_n 0, 1) := by decide +kernel
theorem dX5_reach_178 : decode cX5_reach 178 = .ok (.getfield 7, 3) := by decide +kernel
theorem dX5_reach_181 : decode cX5_reach 181 = .ok (.bipush 48, 2) := by decide +kernel
theorem dX5_reach_183 : decode cX5_reach 183 = .ok (.iload_n 2, 1) := by decide +kernel
theorem dX5_reach_184 : decode cX5_reach 184 = .ok (.iadd, 1) := by decide +kernel
theorem dX5_reach_185 : decode cX5_reach 185 = .ok (.iload 9, 2) := by decide +kernel
theorem dX5_reach_187 : decode cX5_reach 187 = .ok (.iadd, 1) := by decide +kernel
theorem dX5_reach_188 : decode cX5_reach 188 = .ok (.iconst 1, 1) := by decide +kernel
theorem dX5_reach_189 : decode cX5_reach 189 = .ok (.isub, 1) := by decide +kernel
theorem dX5_reach_190 : decode cX5_reach 190 = .ok (.iaload, 1) := by decide +kernel
theorem dX5_reach_191 : decode cX5_reach 191 = .ok (.if_icmp .ne 7, 3) := by decide +kernel
theorem dX5_reach_194 : decode cX5_reach 194 = .ok (.iconst 1, 1) := by decide +kernel
theorem dX5_reach_195 : decode cX5_reach 195 = .ok (.goto 4, 3) := by decide +kernel
theorem dX5_reach_198 : decode cX5_reach 198 = .ok (.iconst 0, 1) := by decide +kernel
theorem dX5_reach_199 : decode cX5_reach 199 = .ok (.istore 11, 2) := by decide +kernel
theorem dX5_reach_201 : decode cX5_reach 201 = .ok (.aload_n 0, 1) := by decide +kernel
theorem dX5_reach_202 : decode cX5_reach 202 = .ok (.iload 8, 2) := by decide +kernel
theorem dX5_reach_204 : decode cX5_reach 204 = .ok (.iconst 1, 1) := by decide +kernel
theorem dX5_reach_205 : decode cX5_reach 205 = .ok (.isub, 1) := by decide +kernel
theorem dX5_reach_206 : decode cX5_reach 206 = .ok (.iload 9, 2) := by decide +kernel
theorem dX5_reach_208 : decode cX5_reach 208 = .ok (.iconst 1, 1) := by decide +kernel
theorem dX5_reach_209 : decode cX5_reach 209 = .ok (.isub, 1) := by decide +kernel
theorem dX5_reach_210 : decode cX5_reach 210 = .ok (.invokevirtual 94, 3) := by decide +kernel
theorem dX5_reach_213 : decode cX5_reach 213 = .ok (.iload 11, 2) := by decide +kernel
theorem dX5_reach_215 : decode cX5_reach 215 = .ok (.ifCond .eq 10, 3) := by decide +kernel
theorem dX5_reach_218 : decode cX5_reach 218 = .ok (.aload_n 0, 1) := by decide +kernel
theorem dX5_reach_219 : decode cX5_reach 219 = .ok (.getfield 23, 3) := by decide +kernel
theorem dX5_reach_222 : decode cX5_reach 222 = .ok (.goto 8, 3) := by decide +kernel
theorem dX5_reach_225 : decode cX5_reach 225 = .ok (.aload_n 0, 1) := by decide +kernel
theorem dX5_reach_226 : decode cX5_reach 226 = .ok (.getfield 26, 3) := by decide +kernel
theorem dX5_reach_229 : decode cX5_reach 229 = .ok (.ineg, 1) := by decide +kernel
theorem dX5_reach_230 : decode cX5_reach 230 = .ok (.iadd, 1) := by decide +kernel
theorem dX5_reach_231 : decode cX5_reach 231 = .ok (.istore 10, 2) := by decide +kernel
theorem dX5_reach_233 : decode cX5_reach 233 = .ok (.aload_n 0, 1) := by decide +kernel
theorem dX5_reach_234 : decode cX5_reach 234 = .ok (.iload 8, 2) := by decide +kernel
theorem dX5_reach_236 : decode cX5_reach 236 = .ok (.iconst 1, 1) := by decide +kernel
theorem dX5_reach_237 : decode cX5_reach 237 = .ok (.isub, 1) := by decide +kernel
theorem dX5_reach_238 : decode cX5_reach 238 = .ok (.iload 9, 2) := by decide +kernel
theorem dX5_reach_240 : decode cX5_reach 240 = .ok (.invokevirtual 94, 3) := by decide +kernel
theorem dX5_reach_243 : decode cX5_reach 243 = .ok (.ldc 78, 2) := by decide +kernel
theorem dX5_reach_245 : decode cX5_reach 245 = .ok (.if_icmp .le 25, 3) := by decide +kernel
theorem dX5_reach_248 : decode cX5_reach 248 = .ok (.iload 10, 2) := by decide +kernel
theorem dX5_reach_250 : decode cX5_reach 250 = .ok (.aload_n 0, 1) := by decide +kernel
theorem dX5_reach_251 : decode cX5_reach 251 = .ok (.iload 8, 2) := by decide +kernel
theorem dX5_reach_253 : decode cX5_reach 253 = .ok (.iconst 1, 1) := by decide +kernel
theorem dX5_reach_254 : decode cX5_reach 254 = .ok (.isub, 1) := by decide +kernel
theorem dX5_reach_255 : decode cX5_reach 255 = .ok (.iload 9, 2) := by decide +kernel
theorem dX5_reach_257 : decode cX5_reach 257 = .ok (.invokevirtual 94, 3) := by decide +kernel
theorem dX5_reach_260 : decode cX5_reach 260 = .ok (.aload_n 0, 1) := by decide +kernel
theorem dX5_reach_261 : decode cX5_reach 261 = .ok (.getfield 29, 3) := by decide +kernel
theorem dX5_reach_264 : decode cX5_reach 264 = .ok (.isub, 1) := by decide +kernel
theorem dX5_reach_265 : decode cX5_reach 265 = .ok (.invokestatic 97, 3) := by decide +kernel
theorem dX5_reach_268 : decode cX5_reach 268 = .ok (.istore 10, 2) := by decide +kernel
theorem dX5_reach_270 : decode cX5_reach 270 = .ok (.aload_n 0, 1) := by decide +kernel
theorem dX5_reach_271 : decode cX5_reach 271 = .ok (.iload 8, 2) := by decide +kernel
theorem dX5_reach_273 : decode cX5_reach 273 = .ok (.iload 9, 2) := by decide +kernel
theorem dX5_reach_275 : decode cX5_reach 275 = .ok (.iconst 1, 1) := by decide +kernel
theorem dX5_reach_276 : decode cX5_reach 276 = .ok (.isub, 1) := by decide +kernel
theorem dX5_reach_277 : decode cX5_reach 277 = .ok (.invokevirtual 94, 3) := by decide +kernel
theorem dX5_reach_280 : decode cX5_reach 280 = .ok (.ldc 78, 2) := by decide +kernel
theorem dX5_reach_282 : decode cX5_reach 282 = .ok (.if_icmp .le 25, 3) := by decide +kernel
theorem dX5_reach_285 : decode cX5_reach 285 = .ok (.iload 10, 2) := by decide +kernel
theorem dX5_reach_287 : decode cX5_reach 287 = .ok (.aload_n 0, 1) := by decide +kernel
theorem dX5_reach_288 : decode cX5_reach 288 = .ok (.iload 8, 2) := by decide +kernel
theorem dX5_reach_290 : decode cX5_reach 290 = .ok (.iload 9, 2) := by decide +kernel
theorem dX5_reach_292 : decode cX5_reach 292 = .ok (.iconst 1, 1) := by decide +kernel
theorem dX5_reach_293 : decode cX5_reach 293 = .ok (.isub, 1) := by decide +kernel
theorem dX5_reach_294 : decode cX5_reach 294 = .ok (.invokevirtual 94, 3) := by decide +kernel
theorem dX5_reach_297 : decode cX5_reach 297 = .ok (.aload_n 0, 1) := by decide +kernel
theorem dX5_reach_298 : decode cX5_reach 298 = .ok (.getfield 29, 3) := by decide +kernel
theorem dX5_reach_301 : decode cX5_reach 301 = .ok (.isub, 1) := by decide +kernel
theorem dX5_reach_302 : decode cX5_reach 302 = .ok (.invokestatic 97, 3) := by decide +kernel
theorem dX5_reach_305 : decode cX5_reach 305 = .ok (.istore 10, 2) := by decide +kernel
theorem dX5_reach_307 : decode cX5_reach 307 = .ok (.iload 10, 2) := by decide +kernel
theorem dX5_reach_309 : decode cX5_reach 309 = .ok (.ldc 78, 2) := by decide +kernel
theorem dX5_reach_311 : decode cX5_reach 311 = .ok (.if_icmp .le 19, 3) := by decide +kernel
theorem dX5_reach_314 : decode cX5_reach 314 = .ok (.iload 10, 2) := by decide +kernel
theorem dX5_reach_316 : decode cX5_reach 316 = .ok (.iload 7, 2) := by decide +kernel
theorem dX5_reach_318 : decode cX5_reach 318 = .ok (.aload_n 0, 1) := by decide +kernel
theorem dX5_reach_319 : decode cX5_reach 319 = .ok (.getfield 32, 3) := by decide +kernel
theorem dX5_reach_322 : decode cX5_reach 322 = .ok (.isub, 1) := by decide +kernel
theorem dX5_reach_323 : decode cX5_reach 323 = .ok (.if_icmp .lt 7, 3) := by decide +kernel
theorem dX5_reach_326 : decode cX5_reach 326 = .ok (.iconst 1, 1) := by decide +kernel
theorem dX5_reach_327 : decode cX5_reach 327 = .ok (.goto 4, 3) := by decide +kernel
theorem dX5_reach_330 : decode cX5_reach 330 = .ok (.iconst 0, 1) := by decide +kernel
theorem dX5_reach_331 : decode cX5_reach 331 = .ok (.istore 11, 2) := by decide +kernel
theorem dX5_reach_333 : decode cX5_reach 333 = .ok (.aload_n 0, 1) := by decide +kernel
theorem dX5_reach_334 : decode cX5_reach 334 = .ok (.getfield 47, 3) := by decide +kernel
theorem dX5_reach_337 : decode cX5_reach 337 = .ok (.bipush 49, 2) := by decide +kernel
theorem dX5_reach_339 : decode cX5_reach 339 = .ok (.iload 8, 2) := by decide +kernel
theorem dX5_reach_341 : decode cX5_reach 341 = .ok (.imul, 1) := by decide +kernel
theorem dX5_reach_342 : decode cX5_reach 342 = .ok (.iload 9, 2) := by decide +kernel
theorem dX5_reach_344 : decode cX5_reach 344 = .ok (.iadd, 1) := by decide +kernel
theorem dX5_reach_345 : decode cX5_reach 345 = .ok (.iload 11, 2) := by decide +kernel
theorem dX5_reach_347 : decode cX5_reach 347 = .ok (.ifCond .eq 8, 3) := by decide +kernel
theorem dX5_reach_350 : decode cX5_reach 350 = .ok (.iload 10, 2) := by decide +kernel
theorem dX5_reach_352 : decode cX5_reach 352 = .ok (.goto 5, 3) := by decide +kernel
theorem dX5_reach_355 : decode cX5_reach 355 = .ok (.ldc 78, 2) := by decide +kernel
theorem dX5_reach_357 : decode cX5_reach 357 = .ok (.iastore, 1) := by decide +kernel
theorem dX5_reach_358 : decode cX5_reach 358 = .ok (.iload 11, 2) := by decide +kernel
theorem dX5_reach_360 : decode cX5_reach 360 = .ok (.ifCond .eq 47, 3) := by decide +kernel
theorem dX5_reach_363 : decode cX5_reach 363 = .ok (.iload 6, 2) := by decide +kernel
theorem dX5_reach_365 : decode cX5_reach 365 = .ok (.ifCond .le 42, 3) := by decide +kernel
theorem dX5_reach_368 : decode cX5_reach 368 = .ok (.aload_n 0, 1) := by decide +kernel
theorem dX5_reach_369 : decode cX5_reach 369 = .ok (.dup, 1) := by decide +kernel
theorem dX5_reach_370 : decode cX5_reach 370 = .ok (.getfield 88, 3) := by decide +kernel
theorem dX5_reach_373 : decode cX5_reach 373 = .ok (.iconst 1, 1) := by decide +kernel
theorem dX5_reach_374 : decode cX5_reach 374 = .ok (.iadd, 1) := by decide +kernel
theorem dX5_reach_375 : decode cX5_reach 375 = .ok (.putfield 88, 3) := by decide +kernel
theorem dX5_reach_378 : decode cX5_reach 378 = .ok (.aload_n 0, 1) := by decide +kernel
theorem dX5_reach_379 : decode cX5_reach 379 = .ok (.iload 6, 2) := by decide +kernel
theorem dX5_reach_381 : decode cX5_reach 381 = .ok (.putfield 91, 3) := by decide +kernel
theorem dX5_reach_384 : decode cX5_reach 384 = .ok (.iload 10, 2) := by decide +kernel
theorem dX5_reach_386 : decode cX5_reach 386 = .ok (.iload 5, 2) := by decide +kernel
theorem dX5_reach_388 : decode cX5_reach 388 = .ok (.if_icmp .le 19, 3) := by decide +kernel
theorem dX5_reach_391 : decode cX5_reach 391 = .ok (.iload 10, 2) := by decide +kernel
theorem dX5_reach_393 : decode cX5_reach 393 = .ok (.istore 5, 2) := by decide +kernel
theorem dX5_reach_395 : decode cX5_reach 395 = .ok (.aload_n 0, 1) := by decide +kernel
