theorem dX1_init_0 : decode cX1_init 0 = .ok (.aload_n 0, 1) := by decide +kernel
theorem dX1_init_1 : decode cX1_init 1 = .ok (.invokespecial 3, 3) := by decide +kernel
theorem dX1_init_4 : decode cX1_init 4 = .ok (.aload_n 0, 1) := by decide +kernel
theorem dX1_init_5 : decode cX1_init 5 = .ok (.getstatic 9, 3) := by decide +kernel
theorem dX1_init_8 : decode cX1_init 8 = .ok (.invokevirtual 13, 3) := by decide +kernel
theorem dX1_init_11 : decode cX1_init 11 = .ok (.checkcast 14, 3) := by decide +kernel
theorem dX1_init_14 : decode cX1_init 14 = .ok (.putfield 18, 3) := by decide +kernel
theorem dX1_init_17 : decode cX1_init 17 = .ok (.aload_n 0, 1) := by decide +kernel
theorem dX1_init_18 : decode cX1_init 18 = .ok (.iconst 3, 1) := by decide +kernel
theorem dX1_init_19 : decode cX1_init 19 = .ok (.putfield 23, 3) := by decide +kernel
theorem dX1_init_22 : decode cX1_init 22 = .ok (.aload_n 0, 1) := by decide +kernel
theorem dX1_init_23 : decode cX1_init 23 = .ok (.iconst (-1), 1) := by decide +kernel
theorem dX1_init_24 : decode cX1_init 24 = .ok (.putfield 27, 3) := by decide +kernel
theorem dX1_init_27 : decode cX1_init 27 = .ok (.return_, 1) := by decide +kernel
theorem dX1_has_0 : decode cX1_has 0 = .ok (.aload_n 0, 1) := by decide +kernel
theorem dX1_has_1 : decode cX1_has 1 = .ok (.getfield 23, 3) := by decide +kernel
theorem dX1_has_4 : decode cX1_has 4 = .ok (.iload_n 1, 1) := by decide +kernel
theorem dX1_has_5 : decode cX1_has 5 = .ok (.iand, 1) := by decide +kernel
theorem dX1_has_6 : decode cX1_has 6 = .ok (.ifCond .eq 7, 3) := by decide +kernel
theorem dX1_has_9 : decode cX1_has 9 = .ok (.iconst 1, 1) := by decide +kernel
theorem dX1_has_10 : decode cX1_has 10 = .ok (.goto 4, 3) := by decide +kernel
theorem dX1_has_13 : decode cX1_has 13 = .ok (.iconst 0, 1) := by decide +kernel
theorem dX1_has_14 : decode cX1_has 14 = .ok (.ireturn, 1) := by decide +kernel
theorem dX1_isWanted_0 : decode cX1_isWanted 0 = .ok (.aload_n 0, 1) := by decide +kernel
theorem dX1_isWanted_1 : decode cX1_isWanted 1 = .ok (.getfield 30, 3) := by decide +kernel
theorem dX1_isWanted_4 : decode cX1_isWanted 4 = .ok (.ifCond .ne 17, 3) := by decide +kernel
theorem dX1_isWanted_7 : decode cX1_isWanted 7 = .ok (.aload_n 0, 1) := by decide +kernel
theorem dX1_isWanted_8 : decode cX1_isWanted 8 = .ok (.getfield 34, 3) := by decide +kernel
theorem dX1_isWanted_11 : decode cX1_isWanted 11 = .ok (.ifCond .ne 10, 3) := by decide +kernel
theorem dX1_isWanted_14 : decode cX1_isWanted 14 = .ok (.aload_n 0, 1) := by decide +kernel
theorem dX1_isWanted_15 : decode cX1_isWanted 15 = .ok (.getfield 37, 3) := by decide +kernel
theorem dX1_isWanted_18 : decode cX1_isWanted 18 = .ok (.ifCond .eq 7, 3) := by decide +kernel
theorem dX1_isWanted_21 : decode cX1_isWanted 21 = .ok (.iconst 1, 1) := by decide +kernel
theorem dX1_isWanted_22 : decode cX1_isWanted 22 = .ok (.goto 4, 3) := by decide +kernel
theorem dX1_isWanted_25 : decode cX1_isWanted 25 = .ok (.iconst 0, 1) := by decide +kernel
theorem dX1_isWanted_26 : decode cX1_isWanted 26 = .ok (.istore_n 1, 1) := by decide +kernel
theorem dX1_isWanted_27 : decode cX1_isWanted 27 = .ok (.aload_n 0, 1) := by decide +kernel
theorem dX1_isWanted_28 : decode cX1_isWanted 28 = .ok (.iconst 1, 1) := by decide +kernel
theorem dX1_isWanted_29 : decode cX1_isWanted 29 = .ok (.invokevirtual 40, 3) := by decide +kernel
theorem dX1_isWanted_32 : decode cX1_isWanted 32 = .ok (.ifCond .eq 20, 3) := by decide +kernel
theorem dX1_isWanted_35 : decode cX1_isWanted 35 = .ok (.iload_n 1, 1) := by decide +kernel
theorem dX1_isWanted_36 : decode cX1_isWanted 36 = .ok (.ifCond .ne 12, 3) := by decide +kernel
theorem dX1_isWanted_39 : decode cX1_isWanted 39 = .ok (.aload_n 0, 1) := by decide +kernel
theorem dX1_isWanted_40 : decode cX1_isWanted 40 = .ok (.bipush 28, 2) := by decide +kernel
theorem dX1_isWanted_42 : decode cX1_isWanted 42 = .ok (.invokevirtual 40, 3) := by decide +kernel
theorem dX1_isWanted_45 : decode cX1_isWanted 45 = .ok (.ifCond .eq 7, 3) := by decide +kernel
theorem dX1_isWanted_48 : decode cX1_isWanted 48 = .ok (.iconst 1, 1) := by decide +kernel
theorem dX1_isWanted_49 : decode cX1_isWanted 49 = .ok (.goto 4, 3) := by decide +kernel
theorem dX1_isWanted_52 : decode cX1_isWanted 52 = .ok (.iconst 0, 1) := by decide +kernel
theorem dX1_isWanted_53 : decode cX1_isWanted 53 = .ok (.ireturn, 1) := by decide +kernel
theorem dX1_comesAlong_0 : decode cX1_comesAlong 0 = .ok (.aload_n 0, 1) := by decide +kernel
theorem dX1_comesAlong_1 : decode cX1_comesAlong 1 = .ok (.iconst 1, 1) := by decide +kernel
theorem dX1_comesAlong_2 : decode cX1_comesAlong 2 = .ok (.invokevirtual 40, 3) := by decide +kernel
theorem dX1_comesAlong_5 : decode cX1_comesAlong 5 = .ok (.ifCond .eq 16, 3) := by decide +kernel
theorem dX1_comesAlong_8 : decode cX1_comesAlong 8 = .ok (.aload_n 0, 1) := by decide +kernel
theorem dX1_comesAlong_9 : decode cX1_comesAlong 9 = .ok (.bipush 32, 2) := by decide +kernel
theorem dX1_comesAlong_11 : decode cX1_comesAlong 11 = .ok (.invokevirtual 40, 3) := by decide +kernel
theorem dX1_comesAlong_14 : decode cX1_comesAlong 14 = .ok (.ifCond .eq 7, 3) := by decide +kernel
theorem dX1_comesAlong_17 : decode cX1_comesAlong 17 = .ok (.iconst 1, 1) := by decide +kernel
theorem dX1_comesAlong_18 : decode cX1_comesAlong 18 = .ok (.goto 4, 3) := by decide +kernel
theorem dX1_comesAlong_21 : decode cX1_comesAlong 21 = .ok (.iconst 0, 1) := by decide +kernel
theorem dX1_comesAlong_22 : decode cX1_comesAlong 22 = .ok (.ireturn, 1) := by decide +kernel
theorem dX1_wouldWalk_0 : decode cX1_wouldWalk 0 = .ok (.aload_n 0, 1) := by decide +kernel
theorem dX1_wouldWalk_1 : decode cX1_wouldWalk 1 = .ok (.getfield 18, 3) := by decide +kernel
theorem dX1_wouldWalk_4 : decode cX1_wouldWalk 4 = .ok (.iconst 5, 1) := by decide +kernel
theorem dX1_wouldWalk_5 : decode cX1_wouldWalk 5 = .ok (.iaload, 1) := by decide +kernel
theorem dX1_wouldWalk_6 : decode cX1_wouldWalk 6 = .ok (.ifCond .le 23, 3) := by decide +kernel
theorem dX1_wouldWalk_9 : decode cX1_wouldWalk 9 = .ok (.aload_n 0, 1) := by decide +kernel
theorem dX1_wouldWalk_10 : decode cX1_wouldWalk 10 = .ok (.getfield 37, 3) := by decide +kernel
theorem dX1_wouldWalk_13 : decode cX1_wouldWalk 13 = .ok (.ifCond .ne 12, 3) := by decide +kernel
theorem dX1_wouldWalk_16 : decode cX1_wouldWalk 16 = .ok (.aload_n 0, 1) := by decide +kernel
theorem dX1_wouldWalk_17 : decode cX1_wouldWalk 17 = .ok (.bipush 16, 2) := by decide +kernel
theorem dX1_wouldWalk_19 : decode cX1_wouldWalk 19 = .ok (.invokevirtual 40, 3) := by decide +kernel
theorem dX1_wouldWalk_22 : decode cX1_wouldWalk 22 = .ok (.ifCond .eq 7, 3) := by decide +kernel
theorem dX1_wouldWalk_25 : decode cX1_wouldWalk 25 = .ok (.iconst 1, 1) := by decide +kernel
theorem dX1_wouldWalk_26 : decode cX1_wouldWalk 26 = .ok (.goto 4, 3) := by decide +kernel
theorem dX1_wouldWalk_29 : decode cX1_wouldWalk 29 = .ok (.iconst 0, 1) := by decide +kernel
theorem dX1_wouldWalk_30 : decode cX1_wouldWalk 30 = .ok (.ireturn, 1) := by decide +kernel
theorem dX1_countWait_0 : decode cX1_countWait 0 = .ok (.aload_n 0, 1) := by decide +kernel
theorem dX1_countWait_1 : decode cX1_countWait 1 = .ok (.iload_n 1, 1) := by decide +kernel
theorem dX1_countWait_2 : decode cX1_countWait 2 = .ok (.ifCond .eq 12, 3) := by decide +kernel
theorem dX1_countWait_5 : decode cX1_countWait 5 = .ok (.aload_n 0, 1) := by decide +kernel
theorem dX1_countWait_6 : decode cX1_countWait 6 = .ok (.getfield 44, 3) := by decide +kernel
theorem dX1_countWait_9 : decode cX1_countWait 9 = .ok (.iconst 1, 1) := by decide +kernel
theorem dX1_countWait_10 : decode cX1_countWait 10 = .ok (.iadd, 1) := by decide +kernel
theorem dX1_countWait_11 : decode cX1_countWait 11 = .ok (.goto 4, 3) := by decide +kernel
theorem dX1_countWait_14 : decode cX1_countWait 14 = .ok (.iconst 0, 1) := by decide +kernel
theorem dX1_countWait_15 : decode cX1_countWait 15 = .ok (.putfield 44, 3) := by decide +kernel
theorem dX1_countWait_18 : decode cX1_countWait 18 = .ok (.aload_n 0, 1) := by decide +kernel
theorem dX1_countWait_19 : decode cX1_countWait 19 = .ok (.aload_n 0, 1) := by decide +kernel
theorem dX1_countWait_20 : decode cX1_countWait 20 = .ok (.getfield 47, 3) := by decide +kernel
theorem dX1_countWait_23 : decode cX1_countWait 23 = .ok (.aload_n 0, 1) := by decide +kernel
theorem dX1_countWait_24 : decode cX1_countWait 24 = .ok (.getfield 44, 3) := by decide +kernel
theorem dX1_countWait_27 : decode cX1_countWait 27 = .ok (.invokestatic 50, 3) := by decide +kernel
theorem dX1_countWait_30 : decode cX1_countWait 30 = .ok (.putfield 47, 3) := by decide +kernel
theorem dX1_countWait_33 : decode cX1_countWait 33 = .ok (.return_, 1) := by decide +kernel
theorem dX1_beginGreen_0 : decode cX1_beginGreen 0 = .ok (.aload_n 0, 1) := by decide +kernel
theorem dX1_beginGreen_1 : decode cX1_beginGreen 1 = .ok (.iconst 0, 1) := by decide +kernel
theorem dX1_beginGreen_2 : decode cX1_beginGreen 2 = .ok (.putfield 34, 3) := by decide +kernel
theorem dX1_beginGreen_5 : decode cX1_beginGreen 5 = .ok (.aload_n 0, 1) := by decide +kernel
theorem dX1_beginGreen_6 : decode cX1_beginGreen 6 = .ok (.iconst 0, 1) := by decide +kernel
theorem dX1_beginGreen_7 : decode cX1_beginGreen 7 = .ok (.putfield 37, 3) := by decide +kernel
theorem dX1_beginGreen_10 : decode cX1_beginGreen 10 = .ok (.aload_n 0, 1) := by decide +kernel
theorem dX1_beginGreen_11 : decode cX1_beginGreen 11 = .ok (.dup, 1) := by decide +kernel
theorem dX1_beginGreen_12 : decode cX1_beginGreen 12 = .ok (.getfield 56, 3) := by decide +kernel
theorem dX1_beginGreen_15 : decode cX1_beginGreen 15 = .ok (.iconst 1, 1) := by decide +kernel
theorem dX1_beginGreen_16 : decode cX1_beginGreen 16 = .ok (.iadd, 1) := by decide +kernel
theorem dX1_beginGreen_17 : decode cX1_beginGreen 17 = .ok (.putfield 56, 3) := by decide +kernel
theorem dX1_beginGreen_20 : decode cX1_beginGreen 20 = .ok (.return_, 1) := by decide +kernel
