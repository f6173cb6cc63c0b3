theorem dX3_endCrossing_31 : decode cX3_endCrossing 31 = .ok (.aload_n 0, 1) := by decide +kernel
theorem dX3_endCrossing_32 : decode cX3_endCrossing 32 = .ok (.getfield 106, 3) := by decide +kernel
theorem dX3_endCrossing_35 : decode cX3_endCrossing 35 = .ok (.invokevirtual 215, 3) := by decide +kernel
theorem dX3_endCrossing_38 : decode cX3_endCrossing 38 = .ok (.istore_n 3, 1) := by decide +kernel
theorem dX3_endCrossing_39 : decode cX3_endCrossing 39 = .ok (.aload_n 2, 1) := by decide +kernel
theorem dX3_endCrossing_40 : decode cX3_endCrossing 40 = .ok (.iload_n 3, 1) := by decide +kernel
theorem dX3_endCrossing_41 : decode cX3_endCrossing 41 = .ok (.iconst (-1), 1) := by decide +kernel
theorem dX3_endCrossing_42 : decode cX3_endCrossing 42 = .ok (.if_icmp .eq 7, 3) := by decide +kernel
theorem dX3_endCrossing_45 : decode cX3_endCrossing 45 = .ok (.iload_n 3, 1) := by decide +kernel
theorem dX3_endCrossing_46 : decode cX3_endCrossing 46 = .ok (.goto 12, 3) := by decide +kernel
theorem dX3_endCrossing_49 : decode cX3_endCrossing 49 = .ok (.aload_n 0, 1) := by decide +kernel
theorem dX3_endCrossing_50 : decode cX3_endCrossing 50 = .ok (.aload_n 2, 1) := by decide +kernel
theorem dX3_endCrossing_51 : decode cX3_endCrossing 51 = .ok (.aload_n 0, 1) := by decide +kernel
theorem dX3_endCrossing_52 : decode cX3_endCrossing 52 = .ok (.getfield 106, 3) := by decide +kernel
theorem dX3_endCrossing_55 : decode cX3_endCrossing 55 = .ok (.invokevirtual 228, 3) := by decide +kernel
theorem dX3_endCrossing_58 : decode cX3_endCrossing 58 = .ok (.putfield 100, 3) := by decide +kernel
theorem dX3_endCrossing_61 : decode cX3_endCrossing 61 = .ok (.iinc 1 1, 3) := by decide +kernel
theorem dX3_endCrossing_64 : decode cX3_endCrossing 64 = .ok (.goto (-47), 3) := by decide +kernel
theorem dX3_endCrossing_67 : decode cX3_endCrossing 67 = .ok (.return_, 1) := by decide +kernel
theorem dX3_beginGreens_0 : decode cX3_beginGreens 0 = .ok (.iconst 0, 1) := by decide +kernel
theorem dX3_beginGreens_1 : decode cX3_beginGreens 1 = .ok (.istore_n 1, 1) := by decide +kernel
theorem dX3_beginGreens_2 : decode cX3_beginGreens 2 = .ok (.iconst 0, 1) := by decide +kernel
theorem dX3_beginGreens_3 : decode cX3_beginGreens 3 = .ok (.istore_n 2, 1) := by decide +kernel
theorem dX3_beginGreens_4 : decode cX3_beginGreens 4 = .ok (.iload_n 2, 1) := by decide +kernel
theorem dX3_beginGreens_5 : decode cX3_beginGreens 5 = .ok (.iconst 2, 1) := by decide +kernel
theorem dX3_beginGreens_6 : decode cX3_beginGreens 6 = .ok (.if_icmp .ge 56, 3) := by decide +kernel
theorem dX3_beginGreens_9 : decode cX3_beginGreens 9 = .ok (.aload_n 0, 1) := by decide +kernel
theorem dX3_beginGreens_10 : decode cX3_beginGreens 10 = .ok (.getfield 18, 3) := by decide +kernel
theorem dX3_beginGreens_13 : decode cX3_beginGreens 13 = .ok (.iload_n 2, 1) := by decide +kernel
theorem dX3_beginGreens_14 : decode cX3_beginGreens 14 = .ok (.aaload, 1) := by decide +kernel
theorem dX3_beginGreens_15 : decode cX3_beginGreens 15 = .ok (.astore_n 3, 1) := by decide +kernel
theorem dX3_beginGreens_16 : decode cX3_beginGreens 16 = .ok (.aload_n 3, 1) := by decide +kernel
theorem dX3_beginGreens_17 : decode cX3_beginGreens 17 = .ok (.getfield 140, 3) := by decide +kernel
theorem dX3_beginGreens_20 : decode cX3_beginGreens 20 = .ok (.ifCond .ne 36, 3) := by decide +kernel
theorem dX3_beginGreens_23 : decode cX3_beginGreens 23 = .ok (.aload_n 3, 1) := by decide +kernel
theorem dX3_beginGreens_24 : decode cX3_beginGreens 24 = .ok (.getfield 100, 3) := by decide +kernel
theorem dX3_beginGreens_27 : decode cX3_beginGreens 27 = .ok (.iconst (-1), 1) := by decide +kernel
theorem dX3_beginGreens_28 : decode cX3_beginGreens 28 = .ok (.if_icmp .eq 28, 3) := by decide +kernel
theorem dX3_beginGreens_31 : decode cX3_beginGreens 31 = .ok (.aload_n 0, 1) := by decide +kernel
theorem dX3_beginGreens_32 : decode cX3_beginGreens 32 = .ok (.getfield 11, 3) := by decide +kernel
theorem dX3_beginGreens_35 : decode cX3_beginGreens 35 = .ok (.aload_n 3, 1) := by decide +kernel
theorem dX3_beginGreens_36 : decode cX3_beginGreens 36 = .ok (.getfield 100, 3) := by decide +kernel
theorem dX3_beginGreens_39 : decode cX3_beginGreens 39 = .ok (.aaload, 1) := by decide +kernel
theorem dX3_beginGreens_40 : decode cX3_beginGreens 40 = .ok (.astore 4, 2) := by decide +kernel
theorem dX3_beginGreens_42 : decode cX3_beginGreens 42 = .ok (.aload_n 3, 1) := by decide +kernel
theorem dX3_beginGreens_43 : decode cX3_beginGreens 43 = .ok (.aload 4, 2) := by decide +kernel
theorem dX3_beginGreens_45 : decode cX3_beginGreens 45 = .ok (.invokevirtual 231, 3) := by decide +kernel
theorem dX3_beginGreens_48 : decode cX3_beginGreens 48 = .ok (.aload 4, 2) := by decide +kernel
theorem dX3_beginGreens_50 : decode cX3_beginGreens 50 = .ok (.invokevirtual 234, 3) := by decide +kernel
theorem dX3_beginGreens_53 : decode cX3_beginGreens 53 = .ok (.iinc 1 1, 3) := by decide +kernel
theorem dX3_beginGreens_56 : decode cX3_beginGreens 56 = .ok (.iinc 2 1, 3) := by decide +kernel
theorem dX3_beginGreens_59 : decode cX3_beginGreens 59 = .ok (.goto (-55), 3) := by decide +kernel
theorem dX3_beginGreens_62 : decode cX3_beginGreens 62 = .ok (.iload_n 1, 1) := by decide +kernel
theorem dX3_beginGreens_63 : decode cX3_beginGreens 63 = .ok (.ireturn, 1) := by decide +kernel
theorem dX3_showLightsToGuard_0 : decode cX3_showLightsToGuard 0 = .ok (.iconst 0, 1) := by decide +kernel
theorem dX3_showLightsToGuard_1 : decode cX3_showLightsToGuard 1 = .ok (.istore_n 1, 1) := by decide +kernel
theorem dX3_showLightsToGuard_2 : decode cX3_showLightsToGuard 2 = .ok (.iload_n 1, 1) := by decide +kernel
theorem dX3_showLightsToGuard_3 : decode cX3_showLightsToGuard 3 = .ok (.bipush 8, 2) := by decide +kernel
theorem dX3_showLightsToGuard_5 : decode cX3_showLightsToGuard 5 = .ok (.if_icmp .ge 20, 3) := by decide +kernel
theorem dX3_showLightsToGuard_8 : decode cX3_showLightsToGuard 8 = .ok (.aload_n 0, 1) := by decide +kernel
theorem dX3_showLightsToGuard_9 : decode cX3_showLightsToGuard 9 = .ok (.getfield 32, 3) := by decide +kernel
theorem dX3_showLightsToGuard_12 : decode cX3_showLightsToGuard 12 = .ok (.iload_n 1, 1) := by decide +kernel
theorem dX3_showLightsToGuard_13 : decode cX3_showLightsToGuard 13 = .ok (.aload_n 0, 1) := by decide +kernel
theorem dX3_showLightsToGuard_14 : decode cX3_showLightsToGuard 14 = .ok (.iload_n 1, 1) := by decide +kernel
theorem dX3_showLightsToGuard_15 : decode cX3_showLightsToGuard 15 = .ok (.invokevirtual 112, 3) := by decide +kernel
theorem dX3_showLightsToGuard_18 : decode cX3_showLightsToGuard 18 = .ok (.iastore, 1) := by decide +kernel
theorem dX3_showLightsToGuard_19 : decode cX3_showLightsToGuard 19 = .ok (.iinc 1 1, 3) := by decide +kernel
theorem dX3_showLightsToGuard_22 : decode cX3_showLightsToGuard 22 = .ok (.goto (-20), 3) := by decide +kernel
theorem dX3_showLightsToGuard_25 : decode cX3_showLightsToGuard 25 = .ok (.aload_n 0, 1) := by decide +kernel
theorem dX3_showLightsToGuard_26 : decode cX3_showLightsToGuard 26 = .ok (.getfield 28, 3) := by decide +kernel
theorem dX3_showLightsToGuard_29 : decode cX3_showLightsToGuard 29 = .ok (.aload_n 0, 1) := by decide +kernel
theorem dX3_showLightsToGuard_30 : decode cX3_showLightsToGuard 30 = .ok (.getfield 32, 3) := by decide +kernel
theorem dX3_showLightsToGuard_33 : decode cX3_showLightsToGuard 33 = .ok (.invokevirtual 236, 3) := by decide +kernel
theorem dX3_showLightsToGuard_36 : decode cX3_showLightsToGuard 36 = .ok (.return_, 1) := by decide +kernel
theorem dX3_calledOn_0 : decode cX3_calledOn 0 = .ok (.aload_n 0, 1) := by decide +kernel
theorem dX3_calledOn_1 : decode cX3_calledOn 1 = .ok (.aload_n 1, 1) := by decide +kernel
theorem dX3_calledOn_2 : decode cX3_calledOn 2 = .ok (.iload_n 2, 1) := by decide +kernel
theorem dX3_calledOn_3 : decode cX3_calledOn 3 = .ok (.invokevirtual 56, 3) := by decide +kernel
theorem dX3_calledOn_6 : decode cX3_calledOn 6 = .ok (.invokevirtual 121, 3) := by decide +kernel
theorem dX3_calledOn_9 : decode cX3_calledOn 9 = .ok (.ifCond .eq 9, 3) := by decide +kernel
theorem dX3_calledOn_12 : decode cX3_calledOn 12 = .ok (.aload_n 1, 1) := by decide +kernel
theorem dX3_calledOn_13 : decode cX3_calledOn 13 = .ok (.iload_n 2, 1) := by decide +kernel
theorem dX3_calledOn_14 : decode cX3_calledOn 14 = .ok (.invokevirtual 56, 3) := by decide +kernel
theorem dX3_calledOn_17 : decode cX3_calledOn 17 = .ok (.ireturn, 1) := by decide +kernel
theorem dX3_calledOn_18 : decode cX3_calledOn 18 = .ok (.aload_n 0, 1) := by decide +kernel
theorem dX3_calledOn_19 : decode cX3_calledOn 19 = .ok (.aload_n 1, 1) := by decide +kernel
theorem dX3_calledOn_20 : decode cX3_calledOn 20 = .ok (.iload_n 2, 1) := by decide +kernel
theorem dX3_calledOn_21 : decode cX3_calledOn 21 = .ok (.invokevirtual 63, 3) := by decide +kernel
theorem dX3_calledOn_24 : decode cX3_calledOn 24 = .ok (.invokevirtual 121, 3) := by decide +kernel
theorem dX3_calledOn_27 : decode cX3_calledOn 27 = .ok (.ifCond .eq 11, 3) := by decide +kernel
theorem dX3_calledOn_30 : decode cX3_calledOn 30 = .ok (.aload_n 1, 1) := by decide +kernel
theorem dX3_calledOn_31 : decode cX3_calledOn 31 = .ok (.iload_n 2, 1) := by decide +kernel
theorem dX3_calledOn_32 : decode cX3_calledOn 32 = .ok (.invokevirtual 63, 3) := by decide +kernel
theorem dX3_calledOn_35 : decode cX3_calledOn 35 = .ok (.goto 4, 3) := by decide +kernel
theorem dX3_calledOn_38 : decode cX3_calledOn 38 = .ok (.iconst (-1), 1) := by decide +kernel
theorem dX3_calledOn_39 : decode cX3_calledOn 39 = .ok (.ireturn, 1) := by decide +kernel
theorem dX3_comingAlongOn_0 : decode cX3_comingAlongOn 0 = .ok (.aload_n 0, 1) := by decide +kernel
theorem dX3_comingAlongOn_1 : decode cX3_comingAlongOn 1 = .ok (.getfield 11, 3) := by decide +kernel
theorem dX3_comingAlongOn_4 : decode cX3_comingAlongOn 4 = .ok (.aload_n 1, 1) := by decide +kernel
theorem dX3_comingAlongOn_5 : decode cX3_comingAlongOn 5 = .ok (.iload_n 2, 1) := by decide +kernel
theorem dX3_comingAlongOn_6 : decode cX3_comingAlongOn 6 = .ok (.invokevirtual 56, 3) := by decide +kernel
theorem dX3_comingAlongOn_9 : decode cX3_comingAlongOn 9 = .ok (.aaload, 1) := by decide +kernel
theorem dX3_comingAlongOn_10 : decode cX3_comingAlongOn 10 = .ok (.invokevirtual 240, 3) := by decide +kernel
theorem dX3_comingAlongOn_13 : decode cX3_comingAlongOn 13 = .ok (.ifCond .eq 9, 3) := by decide +kernel
theorem dX3_comingAlongOn_16 : decode cX3_comingAlongOn 16 = .ok (.aload_n 1, 1) := by decide +kernel
theorem dX3_comingAlongOn_17 : decode cX3_comingAlongOn 17 = .ok (.iload_n 2, 1) := by decide +kernel
theorem dX3_comingAlongOn_18 : decode cX3_comingAlongOn 18 = .ok (.invokevirtual 56, 3) := by decide +kernel
theorem dX3_comingAlongOn_21 : decode cX3_comingAlongOn 21 = .ok (.ireturn, 1) := by decide +kernel
theorem dX3_comingAlongOn_22 : decode cX3_comingAlongOn 22 = .ok (.aload_n 0, 1) := by decide +kernel
theorem dX3_comingAlongOn_23 : decode cX3_comingAlongOn 23 = .ok (.getfield 11, 3) := by decide +kernel
theorem dX3_comingAlongOn_26 : decode cX3_comingAlongOn 26 = .ok (.aload_n 1, 1) := by decide +kernel
theorem dX3_comingAlongOn_27 : decode cX3_comingAlongOn 27 = .ok (.iload_n 2, 1) := by decide +kernel
theorem dX3_comingAlongOn_28 : decode cX3_comingAlongOn 28 = .ok (.invokevirtual 63, 3) := by decide +kernel
theorem dX3_comingAlongOn_31 : decode cX3_comingAlongOn 31 = .ok (.aaload, 1) := by decide +kernel
theorem dX3_comingAlongOn_32 : decode cX3_comingAlongOn 32 = .ok (.invokevirtual 240, 3) := by decide +kernel
theorem dX3_comingAlongOn_35 : decode cX3_comingAlongOn 35 = .ok (.ifCond .eq 11, 3) := by decide +kernel
theorem dX3_comingAlongOn_38 : decode cX3_comingAlongOn 38 = .ok (.aload_n 1, 1) := by decide +kernel
theorem dX3_comingAlongOn_39 : decode cX3_comingAlongOn 39 = .ok (.iload_n 2, 1) := by decide +kernel
theorem dX3_comingAlongOn_40 : decode cX3_comingAlongOn 40 = .ok (.invokevirtual 63, 3) := by decide +kernel
theorem dX3_comingAlongOn_43 : decode cX3_comingAlongOn 43 = .ok (.goto 4, 3) := by decide +kernel
theorem dX3_comingAlongOn_46 : decode cX3_comingAlongOn 46 = .ok (.iconst (-1), 1) := by decide +kernel
theorem dX3_comingAlongOn_47 : decode cX3_comingAlongOn 47 = .ok (.ireturn, 1) := by decide +kernel
theorem dX3_isAnyCalledOn_0 : decode cX3_isAnyCalledOn 0 = .ok (.iconst 0, 1) := by decide +kernel
theorem dX3_isAnyCalledOn_1 : decode cX3_isAnyCalledOn 1 = .ok (.istore_n 2, 1) := by decide +kernel
theorem dX3_isAnyCalledOn_2 : decode cX3_isAnyCalledOn 2 = .ok (.iload_n 2, 1) := by decide +kernel
theorem dX3_isAnyCalledOn_3 : decode cX3_isAnyCalledOn 3 = .ok (.bipush 8, 2) := by decide +kernel
theorem dX3_isAnyCalledOn_5 : decode cX3_isAnyCalledOn 5 = .ok (.if_icmp .ge 27, 3) := by decide +kernel
theorem dX3_isAnyCalledOn_8 : decode cX3_isAnyCalledOn 8 = .ok (.iload_n 2, 1) := by decide +kernel
theorem dX3_isAnyCalledOn_9 : decode cX3_isAnyCalledOn 9 = .ok (.invokestatic 243, 3) := by decide +kernel
theorem dX3_isAnyCalledOn_12 : decode cX3_isAnyCalledOn 12 = .ok (.iload_n 1, 1) := by decide +kernel
theorem dX3_isAnyCalledOn_13 : decode cX3_isAnyCalledOn 13 = .ok (.if_icmp .ne 13, 3) := by decide +kernel
theorem dX3_isAnyCalledOn_16 : decode cX3_isAnyCalledOn 16 = .ok (.aload_n 0, 1) := by decide +kernel
theorem dX3_isAnyCalledOn_17 : decode cX3_isAnyCalledOn 17 = .ok (.iload_n 2, 1) := by decide +kernel
theorem dX3_isAnyCalledOn_18 : decode cX3_isAnyCalledOn 18 = .ok (.invokevirtual 121, 3) := by decide +kernel
theorem dX3_isAnyCalledOn_21 : decode cX3_isAnyCalledOn 21 = .ok (.ifCond .eq 5, 3) := by decide +kernel
theorem dX3_isAnyCalledOn_24 : decode cX3_isAnyCalledOn 24 = .ok (.iconst 1, 1) := by decide +kernel
theorem dX3_isAnyCalledOn_25 : decode cX3_isAnyCalledOn 25 = .ok (.ireturn, 1) := by decide +kernel
theorem dX3_isAnyCalledOn_26 : decode cX3_isAnyCalledOn 26 = .ok (.iinc 2 1, 3) := by decide +kernel
theorem dX3_isAnyCalledOn_29 : decode cX3_isAnyCalledOn 29 = .ok (.goto (-27), 3) := by decide +kernel
theorem dX3_isAnyCalledOn_32 : decode cX3_isAnyCalledOn 32 = .ok (.iconst 0, 1) := by decide +kernel
theorem dX3_isAnyCalledOn_33 : decode cX3_isAnyCalledOn 33 = .ok (.ireturn, 1) := by decide +kernel
theorem dX3_isCalled_0 : decode cX3_isCalled 0 = .ok (.aload_n 0, 1) := by decide +kernel
theorem dX3_isCalled_1 : decode cX3_isCalled 1 = .ok (.getfield 11, 3) := by decide +kernel
theorem dX3_isCalled_4 : decode cX3_isCalled 4 = .ok (.iload_n 1, 1) := by decide +kernel
theorem dX3_isCalled_5 : decode cX3_isCalled 5 = .ok (.aaload, 1) := by decide +kernel
theorem dX3_isCalled_6 : decode cX3_isCalled 6 = .ok (.invokevirtual 246, 3) := by decide +kernel
theorem dX3_isCalled_9 : decode cX3_isCalled 9 = .ok (.ifCond .eq 15, 3) := by decide +kernel
theorem dX3_isCalled_12 : decode cX3_isCalled 12 = .ok (.aload_n 0, 1) := by decide +kernel
theorem dX3_isCalled_13 : decode cX3_isCalled 13 = .ok (.iload_n 1, 1) := by decide +kernel
theorem dX3_isCalled_14 : decode cX3_isCalled 14 = .ok (.invokevirtual 77, 3) := by decide +kernel
theorem dX3_isCalled_17 : decode cX3_isCalled 17 = .ok (.ifCond .ne 7, 3) := by decide +kernel
theorem dX3_isCalled_20 : decode cX3_isCalled 20 = .ok (.iconst 1, 1) := by decide +kernel
theorem dX3_isCalled_21 : decode cX3_isCalled 21 = .ok (.goto 4, 3) := by decide +kernel
theorem dX3_isCalled_24 : decode cX3_isCalled 24 = .ok (.iconst 0, 1) := by decide +kernel
theorem dX3_isCalled_25 : decode cX3_isCalled 25 = .ok (.ireturn, 1) := by decide +kernel
theorem dX3_isGreen_0 : decode cX3_isGreen 0 = .ok (.aload_n 0, 1) := by decide +kernel
theorem dX3_isGreen_1 : decode cX3_isGreen 1 = .ok (.getfield 18, 3) := by decide +kernel
theorem dX3_isGreen_4 : decode cX3_isGreen 4 = .ok (.iload_n 1, 1) := by decide +kernel
theorem dX3_isGreen_5 : decode cX3_isGreen 5 = .ok (.invokestatic 115, 3) := by decide +kernel
theorem dX3_isGreen_8 : decode cX3_isGreen 8 = .ok (.aaload, 1) := by decide +kernel
theorem dX3_isGreen_9 : decode cX3_isGreen 9 = .ok (.astore_n 2, 1) := by decide +kernel
theorem dX3_isGreen_10 : decode cX3_isGreen 10 = .ok (.aload_n 2, 1) := by decide +kernel
theorem dX3_isGreen_11 : decode cX3_isGreen 11 = .ok (.getfield 137, 3) := by decide +kernel
theorem dX3_isGreen_14 : decode cX3_isGreen 14 = .ok (.iload_n 1, 1) := by decide +kernel
theorem dX3_isGreen_15 : decode cX3_isGreen 15 = .ok (.if_icmp .ne 15, 3) := by decide +kernel
theorem dX3_isGreen_18 : decode cX3_isGreen 18 = .ok (.aload_n 2, 1) := by decide +kernel
theorem dX3_isGreen_19 : decode cX3_isGreen 19 = .ok (.getfield 140, 3) := by decide +kernel
theorem dX3_isGreen_22 : decode cX3_isGreen 22 = .ok (.iconst 1, 1) := by decide +kernel
theorem dX3_isGreen_23 : decode cX3_isGreen 23 = .ok (.if_icmp .ne 7, 3) := by decide +kernel
theorem dX3_isGreen_26 : decode cX3_isGreen 26 = .ok (.iconst 1, 1) := by decide +kernel
theorem dX3_isGreen_27 : decode cX3_isGreen 27 = .ok (.goto 4, 3) := by decide +kernel
theorem dX3_isGreen_30 : decode cX3_isGreen 30 = .ok (.iconst 0, 1) := by decide +kernel
theorem dX3_isGreen_31 : decode cX3_isGreen 31 = .ok (.ireturn, 1) := by decide +kernel
theorem dX3_mayEnd_0 : decode cX3_mayEnd 0 = .ok (.aload_n 1, 1) := by decide +kernel
theorem dX3_mayEnd_1 : decode cX3_mayEnd 1 = .ok (.getfield 140, 3) := by decide +kernel
theorem dX3_mayEnd_4 : decode cX3_mayEnd 4 = .ok (.iconst 1, 1) := by decide +kernel
theorem dX3_mayEnd_5 : decode cX3_mayEnd 5 = .ok (.if_icmp .ne 26, 3) := by decide +kernel
theorem dX3_mayEnd_8 : decode cX3_mayEnd 8 = .ok (.aload_n 1, 1) := by decide +kernel
theorem dX3_mayEnd_9 : decode cX3_mayEnd 9 = .ok (.aload_n 0, 1) := by decide +kernel
theorem dX3_mayEnd_10 : decode cX3_mayEnd 10 = .ok (.getfield 11, 3) := by decide +kernel
theorem dX3_mayEnd_13 : decode cX3_mayEnd 13 = .ok (.aload_n 1, 1) := by decide +kernel
theorem dX3_mayEnd_14 : decode cX3_mayEnd 14 = .ok (.getfield 137, 3) := by decide +kernel
theorem dX3_mayEnd_17 : decode cX3_mayEnd 17 = .ok (.aaload, 1) := by decide +kernel
theorem dX3_mayEnd_18 : decode cX3_mayEnd 18 = .ok (.getfield 46, 3) := by decide +kernel
theorem dX3_mayEnd_21 : decode cX3_mayEnd 21 = .ok (.invokevirtual 249, 3) := by decide +kernel
theorem dX3_mayEnd_24 : decode cX3_mayEnd 24 = .ok (.ifCond .eq 7, 3) := by decide +kernel
theorem dX3_mayEnd_27 : decode cX3_mayEnd 27 = .ok (.iconst 1, 1) := by decide +kernel
theorem dX3_mayEnd_28 : decode cX3_mayEnd 28 = .ok (.goto 4, 3) := by decide +kernel
theorem dX3_mayEnd_31 : decode cX3_mayEnd 31 = .ok (.iconst 0, 1) := by decide +kernel
theorem dX3_mayEnd_32 : decode cX3_mayEnd 32 = .ok (.ireturn, 1) := by decide +kernel
theorem dX3_isReady_0 : decode cX3_isReady 0 = .ok (.aload_n 0, 1) := by decide +kernel
theorem dX3_isReady_1 : decode cX3_isReady 1 = .ok (.aload_n 1, 1) := by decide +kernel
theorem dX3_isReady_2 : decode cX3_isReady 2 = .ok (.invokevirtual 152, 3) := by decide +kernel
theorem dX3_isReady_5 : decode cX3_isReady 5 = .ok (.ifCond .ne 10, 3) := by decide +kernel
theorem dX3_isReady_8 : decode cX3_isReady 8 = .ok (.aload_n 1, 1) := by decide +kernel
theorem dX3_isReady_9 : decode cX3_isReady 9 = .ok (.invokestatic 212, 3) := by decide +kernel
theorem dX3_isReady_12 : decode cX3_isReady 12 = .ok (.ifCond .eq 7, 3) := by decide +kernel
theorem dX3_isReady_15 : decode cX3_isReady 15 = .ok (.iconst 1, 1) := by decide +kernel
theorem dX3_isReady_16 : decode cX3_isReady 16 = .ok (.goto 4, 3) := by decide +kernel
theorem dX3_isReady_19 : decode cX3_isReady 19 = .ok (.iconst 0, 1) := by decide +kernel
theorem dX3_isReady_20 : decode cX3_isReady 20 = .ok (.ireturn, 1) := by decide +kernel
theorem dX3_isFlashing_0 : decode cX3_isFlashing 0 = .ok (.aload_n 0, 1) := by decide +kernel
theorem dX3_isFlashing_1 : decode cX3_isFlashing 1 = .ok (.getfield 28, 3) := by decide +kernel
theorem dX3_isFlashing_4 : decode cX3_isFlashing 4 = .ok (.getfield 159, 3) := by decide +kernel
theorem dX3_isFlashing_7 : decode cX3_isFlashing 7 = .ok (.ifCond .eq 7, 3) := by decide +kernel
theorem dX3_isFlashing_10 : decode cX3_isFlashing 10 = .ok (.iconst 1, 1) := by decide +kernel
theorem dX3_isFlashing_11 : decode cX3_isFlashing 11 = .ok (.goto 4, 3) := by decide +kernel
theorem dX3_isFlashing_14 : decode cX3_isFlashing 14 = .ok (.iconst 0, 1) := by decide +kernel
theorem dX3_isFlashing_15 : decode cX3_isFlashing 15 = .ok (.ireturn, 1) := by decide +kernel
theorem dX3_toldLight_0 : decode cX3_toldLight 0 = .ok (.aload_n 0, 1) := by decide +kernel
theorem dX3_toldLight_1 : decode cX3_toldLight 1 = .ok (.getfield 18, 3) := by decide +kernel
theorem dX3_toldLight_4 : decode cX3_toldLight 4 = .ok (.iload_n 1, 1) := by decide +kernel
theorem dX3_toldLight_5 : decode cX3_toldLight 5 = .ok (.invokestatic 115, 3) := by decide +kernel
theorem dX3_toldLight_8 : decode cX3_toldLight 8 = .ok (.aaload, 1) := by decide +kernel
theorem dX3_toldLight_9 : decode cX3_toldLight 9 = .ok (.astore_n 2, 1) := by decide +kernel
theorem dX3_toldLight_10 : decode cX3_toldLight 10 = .ok (.aload_n 2, 1) := by decide +kernel
theorem dX3_toldLight_11 : decode cX3_toldLight 11 = .ok (.getfield 137, 3) := by decide +kernel
theorem dX3_toldLight_14 : decode cX3_toldLight 14 = .ok (.iload_n 1, 1) := by decide +kernel
theorem dX3_toldLight_15 : decode cX3_toldLight 15 = .ok (.if_icmp .eq 5, 3) := by decide +kernel
theorem dX3_toldLight_18 : decode cX3_toldLight 18 = .ok (.iconst 0, 1) := by decide +kernel
theorem dX3_toldLight_19 : decode cX3_toldLight 19 = .ok (.ireturn, 1) := by decide +kernel
theorem dX3_toldLight_20 : decode cX3_toldLight 20 = .ok (.aload_n 2, 1) := by decide +kernel
theorem dX3_toldLight_21 : decode cX3_toldLight 21 = .ok (.getfield 140, 3) := by decide +kernel
theorem dX3_toldLight_24 : decode cX3_toldLight 24 = .ok (.iconst 1, 1) := by decide +kernel
theorem dX3_toldLight_25 : decode cX3_toldLight 25 = .ok (.if_icmp .ne 5, 3) := by decide +kernel
theorem dX3_toldLight_28 : decode cX3_toldLight 28 = .ok (.iconst 2, 1) := by decide +kernel
theorem dX3_toldLight_29 : decode cX3_toldLight 29 = .ok (.ireturn, 1) := by decide +kernel
theorem dX3_toldLight_30 : decode cX3_toldLight 30 = .ok (.aload_n 2, 1) := by decide +kernel
theorem dX3_toldLight_31 : decode cX3_toldLight 31 = .ok (.getfield 140, 3) := by decide +kernel
theorem dX3_toldLight_34 : decode cX3_toldLight 34 = .ok (.iconst 2, 1) := by decide +kernel
theorem dX3_toldLight_35 : decode cX3_toldLight 35 = .ok (.if_icmp .ne 7, 3) := by decide +kernel
theorem dX3_toldLight_38 : decode cX3_toldLight 38 = .ok (.iconst 1, 1) := by decide +kernel
theorem dX3_toldLight_39 : decode cX3_toldLight 39 = .ok (.goto 4, 3) := by decide +kernel
theorem dX3_toldLight_42 : decode cX3_toldLight 42 = .ok (.iconst 0, 1) := by decide +kernel
theorem dX3_toldLight_43 : decode cX3_toldLight 43 = .ok (.ireturn, 1) := by decide +kernel
theorem dX3_shownLight_0 : decode cX3_shownLight 0 = .ok (.aload_n 0, 1) := by decide +kernel
theorem dX3_shownLight_1 : decode cX3_shownLight 1 = .ok (.getfield 11, 3) := by decide +kernel
theorem dX3_shownLight_4 : decode cX3_shownLight 4 = .ok (.iload_n 1, 1) := by decide +kernel
theorem dX3_shownLight_5 : decode cX3_shownLight 5 = .ok (.aaload, 1) := by decide +kernel
theorem dX3_shownLight_6 : decode cX3_shownLight 6 = .ok (.getfield 86, 3) := by decide +kernel
theorem dX3_shownLight_9 : decode cX3_shownLight 9 = .ok (.istore_n 2, 1) := by decide +kernel
theorem dX3_shownLight_10 : decode cX3_shownLight 10 = .ok (.iload_n 2, 1) := by decide +kernel
theorem dX3_shownLight_11 : decode cX3_shownLight 11 = .ok (.iconst (-1), 1) := by decide +kernel
theorem dX3_shownLight_12 : decode cX3_shownLight 12 = .ok (.if_icmp .eq 7, 3) := by decide +kernel
theorem dX3_shownLight_15 : decode cX3_shownLight 15 = .ok (.iload_n 2, 1) := by decide +kernel
theorem dX3_shownLight_16 : decode cX3_shownLight 16 = .ok (.goto 8, 3) := by decide +kernel
theorem dX3_shownLight_19 : decode cX3_shownLight 19 = .ok (.aload_n 0, 1) := by decide +kernel
theorem dX3_shownLight_20 : decode cX3_shownLight 20 = .ok (.iload_n 1, 1) := by decide +kernel
theorem dX3_shownLight_21 : decode cX3_shownLight 21 = .ok (.invokevirtual 165, 3) := by decide +kernel
theorem dX3_shownLight_24 : decode cX3_shownLight 24 = .ok (.ireturn, 1) := by decide +kernel
theorem dX3_isIdle_0 : decode cX3_isIdle 0 = .ok (.aload_n 0, 1) := by decide +kernel
theorem dX3_isIdle_1 : decode cX3_isIdle 1 = .ok (.getfield 140, 3) := by decide +kernel
theorem dX3_isIdle_4 : decode cX3_isIdle 4 = .ok (.ifCond .ne 15, 3) := by decide +kernel
theorem dX3_isIdle_7 : decode cX3_isIdle 7 = .ok (.aload_n 0, 1) := by decide +kernel
theorem dX3_isIdle_8 : decode cX3_isIdle 8 = .ok (.getfield 100, 3) := by decide +kernel
theorem dX3_isIdle_11 : decode cX3_isIdle 11 = .ok (.iconst (-1), 1) := by decide +kernel
theorem dX3_isIdle_12 : decode cX3_isIdle 12 = .ok (.if_icmp .ne 7, 3) := by decide +kernel
theorem dX3_isIdle_15 : decode cX3_isIdle 15 = .ok (.iconst 1, 1) := by decide +kernel
theorem dX3_isIdle_16 : decode cX3_isIdle 16 = .ok (.goto 4, 3) := by decide +kernel
theorem dX3_isIdle_19 : decode cX3_isIdle 19 = .ok (.iconst 0, 1) := by decide +kernel
theorem dX3_isIdle_20 : decode cX3_isIdle 20 = .ok (.ireturn, 1) := by decide +kernel
theorem dX3_isMovement_0 : decode cX3_isMovement 0 = .ok (.iload_n 0, 1) := by decide +kernel
theorem dX3_isMovement_1 : decode cX3_isMovement 1 = .ok (.ifCond .lt 13, 3) := by decide +kernel
theorem dX3_isMovement_4 : decode cX3_isMovement 4 = .ok (.iload_n 0, 1) := by decide +kernel
theorem dX3_isMovement_5 : decode cX3_isMovement 5 = .ok (.bipush 8, 2) := by decide +kernel
theorem dX3_isMovement_7 : decode cX3_isMovement 7 = .ok (.if_icmp .ge 7, 3) := by decide +kernel
theorem dX3_isMovement_10 : decode cX3_isMovement 10 = .ok (.iconst 1, 1) := by decide +kernel
theorem dX3_isMovement_11 : decode cX3_isMovement 11 = .ok (.goto 4, 3) := by decide +kernel
theorem dX3_isMovement_14 : decode cX3_isMovement 14 = .ok (.iconst 0, 1) := by decide +kernel
theorem dX3_isMovement_15 : decode cX3_isMovement 15 = .ok (.ireturn, 1) := by decide +kernel
theorem dX3_isRing_0 : decode cX3_isRing 0 = .ok (.iload_n 0, 1) := by decide +kernel
theorem dX3_isRing_1 : decode cX3_isRing 1 = .ok (.ifCond .lt 12, 3) := by decide +kernel
theorem dX3_isRing_4 : decode cX3_isRing 4 = .ok (.iload_n 0, 1) := by decide +kernel
theorem dX3_isRing_5 : decode cX3_isRing 5 = .ok (.iconst 2, 1) := by decide +kernel
theorem dX3_isRing_6 : decode cX3_isRing 6 = .ok (.if_icmp .ge 7, 3) := by decide +kernel
theorem dX3_isRing_9 : decode cX3_isRing 9 = .ok (.iconst 1, 1) := by decide +kernel
theorem dX3_isRing_10 : decode cX3_isRing 10 = .ok (.goto 4, 3) := by decide +kernel
theorem dX3_isRing_13 : decode cX3_isRing 13 = .ok (.iconst 0, 1) := by decide +kernel
theorem dX3_isRing_14 : decode cX3_isRing 14 = .ok (.ireturn, 1) := by decide +kernel
theorem dX3_number_0 : decode cX3_number 0 = .ok (.iload_n 0, 1) := by decide +kernel
theorem dX3_number_1 : decode cX3_number 1 = .ok (.ifCond .eq 7, 3) := by decide +kernel
theorem dX3_number_4 : decode cX3_number 4 = .ok (.iconst 1, 1) := by decide +kernel
theorem dX3_number_5 : decode cX3_number 5 = .ok (.goto 4, 3) := by decide +kernel
theorem dX3_number_8 : decode cX3_number 8 = .ok (.iconst 0, 1) := by decide +kernel
theorem dX3_number_9 : decode cX3_number 9 = .ok (.ireturn, 1) := by decide +kernel
theorem dX3_ringOf_0 : decode cX3_ringOf 0 = .ok (.iload_n 0, 1) := by decide +kernel
theorem dX3_ringOf_1 : decode cX3_ringOf 1 = .ok (.iconst 4, 1) := by decide +kernel
theorem dX3_ringOf_2 : decode cX3_ringOf 2 = .ok (.idiv, 1) := by decide +kernel
theorem dX3_ringOf_3 : decode cX3_ringOf 3 = .ok (.ireturn, 1) := by decide +kernel
theorem dX3_sideOf_0 : decode cX3_sideOf 0 = .ok (.iload_n 0, 1) := by decide +kernel
theorem dX3_sideOf_1 : decode cX3_sideOf 1 = .ok (.iconst 4, 1) := by decide +kernel
theorem dX3_sideOf_2 : decode cX3_sideOf 2 = .ok (.irem, 1) := by decide +kernel
theorem dX3_sideOf_3 : decode cX3_sideOf 3 = .ok (.iconst 2, 1) := by decide +kernel
theorem dX3_sideOf_4 : decode cX3_sideOf 4 = .ok (.idiv, 1) := by decide +kernel
theorem dX3_sideOf_5 : decode cX3_sideOf 5 = .ok (.ireturn, 1) := by decide +kernel
theorem dX3_areInWay_0 : decode cX3_areInWay 0 = .ok (.iload_n 0, 1) := by decide +kernel
theorem dX3_areInWay_1 : decode cX3_areInWay 1 = .ok (.iload_n 1, 1) := by decide +kernel
theorem dX3_areInWay_2 : decode cX3_areInWay 2 = .ok (.if_icmp .eq 14, 3) := by decide +kernel
theorem dX3_areInWay_5 : decode cX3_areInWay 5 = .ok (.iload_n 0, 1) := by decide +kernel
theorem dX3_areInWay_6 : decode cX3_areInWay 6 = .ok (.invokestatic 115, 3) := by decide +kernel
theorem dX3_areInWay_9 : decode cX3_areInWay 9 = .ok (.iload_n 1, 1) := by decide +kernel
theorem dX3_areInWay_10 : decode cX3_areInWay 10 = .ok (.invokestatic 115, 3) := by decide +kernel
theorem dX3_areInWay_13 : decode cX3_areInWay 13 = .ok (.if_icmp .eq 14, 3) := by decide +kernel
theorem dX3_areInWay_16 : decode cX3_areInWay 16 = .ok (.iload_n 0, 1) := by decide +kernel
theorem dX3_areInWay_17 : decode cX3_areInWay 17 = .ok (.invokestatic 243, 3) := by decide +kernel
theorem dX3_areInWay_20 : decode cX3_areInWay 20 = .ok (.iload_n 1, 1) := by decide +kernel
theorem dX3_areInWay_21 : decode cX3_areInWay 21 = .ok (.invokestatic 243, 3) := by decide +kernel
theorem dX3_areInWay_24 : decode cX3_areInWay 24 = .ok (.if_icmp .eq 7, 3) := by decide +kernel
theorem dX3_areInWay_27 : decode cX3_areInWay 27 = .ok (.iconst 1, 1) := by decide +kernel
theorem dX3_areInWay_28 : decode cX3_areInWay 28 = .ok (.goto 4, 3) := by decide +kernel
theorem dX3_areInWay_31 : decode cX3_areInWay 31 = .ok (.iconst 0, 1) := by decide +kernel
theorem dX3_areInWay_32 : decode cX3_areInWay 32 = .ok (.ireturn, 1) := by decide +kernel
theorem dX3_anyInTheWay_0 : decode cX3_anyInTheWay 0 = .ok (.iconst 0, 1) := by decide +kernel
theorem dX3_anyInTheWay_1 : decode cX3_anyInTheWay 1 = .ok (.istore_n 1, 1) := by decide +kernel
theorem dX3_anyInTheWay_2 : decode cX3_anyInTheWay 2 = .ok (.iload_n 1, 1) := by decide +kernel
theorem dX3_anyInTheWay_3 : decode cX3_anyInTheWay 3 = .ok (.bipush 8, 2) := by decide +kernel
theorem dX3_anyInTheWay_5 : decode cX3_anyInTheWay 5 = .ok (.if_icmp .ge 47, 3) := by decide +kernel
theorem dX3_anyInTheWay_8 : decode cX3_anyInTheWay 8 = .ok (.iload_n 1, 1) := by decide +kernel
theorem dX3_anyInTheWay_9 : decode cX3_anyInTheWay 9 = .ok (.iconst 1, 1) := by decide +kernel
theorem dX3_anyInTheWay_10 : decode cX3_anyInTheWay 10 = .ok (.iadd, 1) := by decide +kernel
theorem dX3_anyInTheWay_11 : decode cX3_anyInTheWay 11 = .ok (.istore_n 2, 1) := by decide +kernel
theorem dX3_anyInTheWay_12 : decode cX3_anyInTheWay 12 = .ok (.iload_n 2, 1) := by decide +kernel
theorem dX3_anyInTheWay_13 : decode cX3_anyInTheWay 13 = .ok (.bipush 8, 2) := by decide +kernel
theorem dX3_anyInTheWay_15 : decode cX3_anyInTheWay 15 = .ok (.if_icmp .ge 31, 3) := by decide +kernel
theorem dX3_anyInTheWay_18 : decode cX3_anyInTheWay 18 = .ok (.aload_n 0, 1) := by decide +kernel
theorem dX3_anyInTheWay_19 : decode cX3_anyInTheWay 19 = .ok (.iload_n 1, 1) := by decide +kernel
theorem dX3_anyInTheWay_20 : decode cX3_anyInTheWay 20 = .ok (.iaload, 1) := by decide +kernel
theorem dX3_anyInTheWay_21 : decode cX3_anyInTheWay 21 = .ok (.ifCond .eq 19, 3) := by decide +kernel
theorem dX3_anyInTheWay_24 : decode cX3_anyInTheWay 24 = .ok (.aload_n 0, 1) := by decide +kernel
theorem dX3_anyInTheWay_25 : decode cX3_anyInTheWay 25 = .ok (.iload_n 2, 1) := by decide +kernel
theorem dX3_anyInTheWay_26 : decode cX3_anyInTheWay 26 = .ok (.iaload, 1) := by decide +kernel
theorem dX3_anyInTheWay_27 : decode cX3_anyInTheWay 27 = .ok (.ifCond .eq 13, 3) := by decide +kernel
theorem dX3_anyInTheWay_30 : decode cX3_anyInTheWay 30 = .ok (.iload_n 1, 1) := by decide +kernel
theorem dX3_anyInTheWay_31 : decode cX3_anyInTheWay 31 = .ok (.iload_n 2, 1) := by decide +kernel
theorem dX3_anyInTheWay_32 : decode cX3_anyInTheWay 32 = .ok (.invokestatic 252, 3) := by decide +kernel
theorem dX3_anyInTheWay_35 : decode cX3_anyInTheWay 35 = .ok (.ifCond .eq 5, 3) := by decide +kernel
theorem dX3_anyInTheWay_38 : decode cX3_anyInTheWay 38 = .ok (.iconst 1, 1) := by decide +kernel
theorem dX3_anyInTheWay_39 : decode cX3_anyInTheWay 39 = .ok (.ireturn, 1) := by decide +kernel
theorem dX3_anyInTheWay_40 : decode cX3_anyInTheWay 40 = .ok (.iinc 2 1, 3) := by decide +kernel
theorem dX3_anyInTheWay_43 : decode cX3_anyInTheWay 43 = .ok (.goto (-31), 3) := by decide +kernel
theorem dX3_anyInTheWay_46 : decode cX3_anyInTheWay 46 = .ok (.iinc 1 1, 3) := by decide +kernel
theorem dX3_anyInTheWay_49 : decode cX3_anyInTheWay 49 = .ok (.goto (-47), 3) := by decide +kernel
theorem dX3_anyInTheWay_52 : decode cX3_anyInTheWay 52 = .ok (.iconst 0, 1) := by decide +kernel
theorem dX3_anyInTheWay_53 : decode cX3_anyInTheWay 53 = .ok (.ireturn, 1) := by decide +kernel
