theorem dX5_reach_396 : decode cX5_reach 396 = .ok (.iload 8, 2) := by decide +kernel
theorem dX5_reach_398 : decode cX5_reach 398 = .ok (.putfield 82, 3) := by decide +kernel
theorem dX5_reach_401 : decode cX5_reach 401 = .ok (.aload_n 0, 1) := by decide +kernel
theorem dX5_reach_402 : decode cX5_reach 402 = .ok (.iload 9, 2) := by decide +kernel
theorem dX5_reach_404 : decode cX5_reach 404 = .ok (.putfield 85, 3) := by decide +kernel
theorem dX5_reach_407 : decode cX5_reach 407 = .ok (.iinc 8 1, 3) := by decide +kernel
theorem dX5_reach_410 : decode cX5_reach 410 = .ok (.goto (-314), 3) := by decide +kernel
theorem dX5_reach_413 : decode cX5_reach 413 = .ok (.iinc 6 1, 3) := by decide +kernel
theorem dX5_reach_416 : decode cX5_reach 416 = .ok (.goto (-336), 3) := by decide +kernel
theorem dX5_reach_419 : decode cX5_reach 419 = .ok (.iload 5, 2) := by decide +kernel
theorem dX5_reach_421 : decode cX5_reach 421 = .ok (.ireturn, 1) := by decide +kernel
theorem dX5_scoreAt_0 : decode cX5_scoreAt 0 = .ok (.iload_n 1, 1) := by decide +kernel
theorem dX5_scoreAt_1 : decode cX5_scoreAt 1 = .ok (.ifCond .lt 7, 3) := by decide +kernel
theorem dX5_scoreAt_4 : decode cX5_scoreAt 4 = .ok (.iload_n 2, 1) := by decide +kernel
theorem dX5_scoreAt_5 : decode cX5_scoreAt 5 = .ok (.ifCond .ge 8, 3) := by decide +kernel
theorem dX5_scoreAt_8 : decode cX5_scoreAt 8 = .ok (.ldc 78, 2) := by decide +kernel
theorem dX5_scoreAt_10 : decode cX5_scoreAt 10 = .ok (.goto 14, 3) := by decide +kernel
theorem dX5_scoreAt_13 : decode cX5_scoreAt 13 = .ok (.aload_n 0, 1) := by decide +kernel
theorem dX5_scoreAt_14 : decode cX5_scoreAt 14 = .ok (.getfield 47, 3) := by decide +kernel
theorem dX5_scoreAt_17 : decode cX5_scoreAt 17 = .ok (.bipush 49, 2) := by decide +kernel
theorem dX5_scoreAt_19 : decode cX5_scoreAt 19 = .ok (.iload_n 1, 1) := by decide +kernel
theorem dX5_scoreAt_20 : decode cX5_scoreAt 20 = .ok (.imul, 1) := by decide +kernel
theorem dX5_scoreAt_21 : decode cX5_scoreAt 21 = .ok (.iload_n 2, 1) := by decide +kernel
theorem dX5_scoreAt_22 : decode cX5_scoreAt 22 = .ok (.iadd, 1) := by decide +kernel
theorem dX5_scoreAt_23 : decode cX5_scoreAt 23 = .ok (.iaload, 1) := by decide +kernel
theorem dX5_scoreAt_24 : decode cX5_scoreAt 24 = .ok (.ireturn, 1) := by decide +kernel
theorem dX5_greater_0 : decode cX5_greater 0 = .ok (.iload_n 0, 1) := by decide +kernel
theorem dX5_greater_1 : decode cX5_greater 1 = .ok (.iload_n 1, 1) := by decide +kernel
theorem dX5_greater_2 : decode cX5_greater 2 = .ok (.if_icmp .le 7, 3) := by decide +kernel
theorem dX5_greater_5 : decode cX5_greater 5 = .ok (.iload_n 0, 1) := by decide +kernel
theorem dX5_greater_6 : decode cX5_greater 6 = .ok (.goto 4, 3) := by decide +kernel
theorem dX5_greater_9 : decode cX5_greater 9 = .ok (.iload_n 1, 1) := by decide +kernel
theorem dX5_greater_10 : decode cX5_greater 10 = .ok (.ireturn, 1) := by decide +kernel
theorem dX5_reached_0 : decode cX5_reached 0 = .ok (.aload_n 0, 1) := by decide +kernel
theorem dX5_reached_1 : decode cX5_reached 1 = .ok (.getfield 79, 3) := by decide +kernel
theorem dX5_reached_4 : decode cX5_reached 4 = .ok (.ifCond .ne 5, 3) := by decide +kernel
theorem dX5_reached_7 : decode cX5_reached 7 = .ok (.iconst (-1), 1) := by decide +kernel
theorem dX5_reached_8 : decode cX5_reached 8 = .ok (.ireturn, 1) := by decide +kernel
theorem dX5_reached_9 : decode cX5_reached 9 = .ok (.iload_n 1, 1) := by decide +kernel
theorem dX5_reached_10 : decode cX5_reached 10 = .ok (.ifCond .ne 10, 3) := by decide +kernel
theorem dX5_reached_13 : decode cX5_reached 13 = .ok (.aload_n 0, 1) := by decide +kernel
theorem dX5_reached_14 : decode cX5_reached 14 = .ok (.getfield 82, 3) := by decide +kernel
theorem dX5_reached_17 : decode cX5_reached 17 = .ok (.goto 40, 3) := by decide +kernel
theorem dX5_reached_20 : decode cX5_reached 20 = .ok (.iload_n 1, 1) := by decide +kernel
theorem dX5_reached_21 : decode cX5_reached 21 = .ok (.iconst 1, 1) := by decide +kernel
theorem dX5_reached_22 : decode cX5_reached 22 = .ok (.if_icmp .ne 10, 3) := by decide +kernel
theorem dX5_reached_25 : decode cX5_reached 25 = .ok (.aload_n 0, 1) := by decide +kernel
theorem dX5_reached_26 : decode cX5_reached 26 = .ok (.getfield 85, 3) := by decide +kernel
theorem dX5_reached_29 : decode cX5_reached 29 = .ok (.goto 28, 3) := by decide +kernel
theorem dX5_reached_32 : decode cX5_reached 32 = .ok (.iload_n 1, 1) := by decide +kernel
theorem dX5_reached_33 : decode cX5_reached 33 = .ok (.iconst 2, 1) := by decide +kernel
theorem dX5_reached_34 : decode cX5_reached 34 = .ok (.if_icmp .ne 10, 3) := by decide +kernel
theorem dX5_reached_37 : decode cX5_reached 37 = .ok (.aload_n 0, 1) := by decide +kernel
theorem dX5_reached_38 : decode cX5_reached 38 = .ok (.getfield 88, 3) := by decide +kernel
theorem dX5_reached_41 : decode cX5_reached 41 = .ok (.goto 16, 3) := by decide +kernel
theorem dX5_reached_44 : decode cX5_reached 44 = .ok (.iload_n 1, 1) := by decide +kernel
theorem dX5_reached_45 : decode cX5_reached 45 = .ok (.iconst 3, 1) := by decide +kernel
theorem dX5_reached_46 : decode cX5_reached 46 = .ok (.if_icmp .ne 10, 3) := by decide +kernel
theorem dX5_reached_49 : decode cX5_reached 49 = .ok (.aload_n 0, 1) := by decide +kernel
theorem dX5_reached_50 : decode cX5_reached 50 = .ok (.getfield 91, 3) := by decide +kernel
theorem dX5_reached_53 : decode cX5_reached 53 = .ok (.goto 4, 3) := by decide +kernel
theorem dX5_reached_56 : decode cX5_reached 56 = .ok (.iconst (-1), 1) := by decide +kernel
theorem dX5_reached_57 : decode cX5_reached 57 = .ok (.ireturn, 1) := by decide +kernel
