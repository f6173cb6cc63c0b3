theorem dX2_init_0 : decode cX2_init 0 = .ok (.aload_n 0, 1) := by decide +kernel
theorem dX2_init_1 : decode cX2_init 1 = .ok (.invokespecial 3, 3) := by decide +kernel
theorem dX2_init_4 : decode cX2_init 4 = .ok (.aload_n 0, 1) := by decide +kernel
theorem dX2_init_5 : decode cX2_init 5 = .ok (.iload_n 1, 1) := by decide +kernel
theorem dX2_init_6 : decode cX2_init 6 = .ok (.putfield 9, 3) := by decide +kernel
theorem dX2_init_9 : decode cX2_init 9 = .ok (.aload_n 0, 1) := by decide +kernel
theorem dX2_init_10 : decode cX2_init 10 = .ok (.iconst 2, 1) := by decide +kernel
theorem dX2_init_11 : decode cX2_init 11 = .ok (.newarray .boolean, 2) := by decide +kernel
theorem dX2_init_13 : decode cX2_init 13 = .ok (.putfield 15, 3) := by decide +kernel
theorem dX2_init_16 : decode cX2_init 16 = .ok (.aload_n 0, 1) := by decide +kernel
theorem dX2_init_17 : decode cX2_init 17 = .ok (.iconst (-1), 1) := by decide +kernel
theorem dX2_init_18 : decode cX2_init 18 = .ok (.putfield 19, 3) := by decide +kernel
theorem dX2_init_21 : decode cX2_init 21 = .ok (.aload_n 0, 1) := by decide +kernel
theorem dX2_init_22 : decode cX2_init 22 = .ok (.iconst 0, 1) := by decide +kernel
theorem dX2_init_23 : decode cX2_init 23 = .ok (.putfield 22, 3) := by decide +kernel
theorem dX2_init_26 : decode cX2_init 26 = .ok (.aload_n 0, 1) := by decide +kernel
theorem dX2_init_27 : decode cX2_init 27 = .ok (.iconst (-1), 1) := by decide +kernel
theorem dX2_init_28 : decode cX2_init 28 = .ok (.putfield 25, 3) := by decide +kernel
theorem dX2_init_31 : decode cX2_init 31 = .ok (.return_, 1) := by decide +kernel
theorem dX2_first_0 : decode cX2_first 0 = .ok (.aload_n 0, 1) := by decide +kernel
theorem dX2_first_1 : decode cX2_first 1 = .ok (.getfield 9, 3) := by decide +kernel
theorem dX2_first_4 : decode cX2_first 4 = .ok (.iconst 2, 1) := by decide +kernel
theorem dX2_first_5 : decode cX2_first 5 = .ok (.iload_n 1, 1) := by decide +kernel
theorem dX2_first_6 : decode cX2_first 6 = .ok (.imul, 1) := by decide +kernel
theorem dX2_first_7 : decode cX2_first 7 = .ok (.iadd, 1) := by decide +kernel
theorem dX2_first_8 : decode cX2_first 8 = .ok (.aload_n 0, 1) := by decide +kernel
theorem dX2_first_9 : decode cX2_first 9 = .ok (.getfield 15, 3) := by decide +kernel
theorem dX2_first_12 : decode cX2_first 12 = .ok (.iload_n 1, 1) := by decide +kernel
theorem dX2_first_13 : decode cX2_first 13 = .ok (.baload, 1) := by decide +kernel
theorem dX2_first_14 : decode cX2_first 14 = .ok (.ifCond .eq 7, 3) := by decide +kernel
theorem dX2_first_17 : decode cX2_first 17 = .ok (.iconst 1, 1) := by decide +kernel
theorem dX2_first_18 : decode cX2_first 18 = .ok (.goto 4, 3) := by decide +kernel
theorem dX2_first_21 : decode cX2_first 21 = .ok (.iconst 0, 1) := by decide +kernel
theorem dX2_first_22 : decode cX2_first 22 = .ok (.iadd, 1) := by decide +kernel
theorem dX2_first_23 : decode cX2_first 23 = .ok (.ireturn, 1) := by decide +kernel
theorem dX2_second_0 : decode cX2_second 0 = .ok (.aload_n 0, 1) := by decide +kernel
theorem dX2_second_1 : decode cX2_second 1 = .ok (.getfield 9, 3) := by decide +kernel
theorem dX2_second_4 : decode cX2_second 4 = .ok (.iconst 2, 1) := by decide +kernel
theorem dX2_second_5 : decode cX2_second 5 = .ok (.iload_n 1, 1) := by decide +kernel
theorem dX2_second_6 : decode cX2_second 6 = .ok (.imul, 1) := by decide +kernel
theorem dX2_second_7 : decode cX2_second 7 = .ok (.iadd, 1) := by decide +kernel
theorem dX2_second_8 : decode cX2_second 8 = .ok (.aload_n 0, 1) := by decide +kernel
theorem dX2_second_9 : decode cX2_second 9 = .ok (.getfield 15, 3) := by decide +kernel
theorem dX2_second_12 : decode cX2_second 12 = .ok (.iload_n 1, 1) := by decide +kernel
theorem dX2_second_13 : decode cX2_second 13 = .ok (.baload, 1) := by decide +kernel
theorem dX2_second_14 : decode cX2_second 14 = .ok (.ifCond .eq 7, 3) := by decide +kernel
theorem dX2_second_17 : decode cX2_second 17 = .ok (.iconst 0, 1) := by decide +kernel
theorem dX2_second_18 : decode cX2_second 18 = .ok (.goto 4, 3) := by decide +kernel
theorem dX2_second_21 : decode cX2_second 21 = .ok (.iconst 1, 1) := by decide +kernel
theorem dX2_second_22 : decode cX2_second 22 = .ok (.iadd, 1) := by decide +kernel
theorem dX2_second_23 : decode cX2_second 23 = .ok (.ireturn, 1) := by decide +kernel
theorem dX2_isBusyWith_0 : decode cX2_isBusyWith 0 = .ok (.aload_n 0, 1) := by decide +kernel
theorem dX2_isBusyWith_1 : decode cX2_isBusyWith 1 = .ok (.getfield 19, 3) := by decide +kernel
theorem dX2_isBusyWith_4 : decode cX2_isBusyWith 4 = .ok (.iload_n 1, 1) := by decide +kernel
theorem dX2_isBusyWith_5 : decode cX2_isBusyWith 5 = .ok (.if_icmp .eq 11, 3) := by decide +kernel
theorem dX2_isBusyWith_8 : decode cX2_isBusyWith 8 = .ok (.aload_n 0, 1) := by decide +kernel
theorem dX2_isBusyWith_9 : decode cX2_isBusyWith 9 = .ok (.getfield 25, 3) := by decide +kernel
theorem dX2_isBusyWith_12 : decode cX2_isBusyWith 12 = .ok (.iload_n 1, 1) := by decide +kernel
theorem dX2_isBusyWith_13 : decode cX2_isBusyWith 13 = .ok (.if_icmp .ne 7, 3) := by decide +kernel
theorem dX2_isBusyWith_16 : decode cX2_isBusyWith 16 = .ok (.iconst 1, 1) := by decide +kernel
theorem dX2_isBusyWith_17 : decode cX2_isBusyWith 17 = .ok (.goto 4, 3) := by decide +kernel
theorem dX2_isBusyWith_20 : decode cX2_isBusyWith 20 = .ok (.iconst 0, 1) := by decide +kernel
theorem dX2_isBusyWith_21 : decode cX2_isBusyWith 21 = .ok (.ireturn, 1) := by decide +kernel
theorem dX2_walking_0 : decode cX2_walking 0 = .ok (.aload_n 0, 1) := by decide +kernel
theorem dX2_walking_1 : decode cX2_walking 1 = .ok (.getfield 28, 3) := by decide +kernel
theorem dX2_walking_4 : decode cX2_walking 4 = .ok (.ifCond .le 5, 3) := by decide +kernel
theorem dX2_walking_7 : decode cX2_walking 7 = .ok (.iconst 1, 1) := by decide +kernel
theorem dX2_walking_8 : decode cX2_walking 8 = .ok (.ireturn, 1) := by decide +kernel
theorem dX2_walking_9 : decode cX2_walking 9 = .ok (.aload_n 0, 1) := by decide +kernel
theorem dX2_walking_10 : decode cX2_walking 10 = .ok (.getfield 31, 3) := by decide +kernel
theorem dX2_walking_13 : decode cX2_walking 13 = .ok (.ifCond .le 7, 3) := by decide +kernel
theorem dX2_walking_16 : decode cX2_walking 16 = .ok (.iconst 2, 1) := by decide +kernel
theorem dX2_walking_17 : decode cX2_walking 17 = .ok (.goto 4, 3) := by decide +kernel
theorem dX2_walking_20 : decode cX2_walking 20 = .ok (.iconst 0, 1) := by decide +kernel
theorem dX2_walking_21 : decode cX2_walking 21 = .ok (.ireturn, 1) := by decide +kernel
theorem dX2_mayEndGreen_0 : decode cX2_mayEndGreen 0 = .ok (.aload_n 0, 1) := by decide +kernel
theorem dX2_mayEndGreen_1 : decode cX2_mayEndGreen 1 = .ok (.getfield 34, 3) := by decide +kernel
theorem dX2_mayEndGreen_4 : decode cX2_mayEndGreen 4 = .ok (.aload_n 1, 1) := by decide +kernel
theorem dX2_mayEndGreen_5 : decode cX2_mayEndGreen 5 = .ok (.iconst 0, 1) := by decide +kernel
theorem dX2_mayEndGreen_6 : decode cX2_mayEndGreen 6 = .ok (.iaload, 1) := by decide +kernel
theorem dX2_mayEndGreen_7 : decode cX2_mayEndGreen 7 = .ok (.if_icmp .lt 14, 3) := by decide +kernel
theorem dX2_mayEndGreen_10 : decode cX2_mayEndGreen 10 = .ok (.aload_n 0, 1) := by decide +kernel
theorem dX2_mayEndGreen_11 : decode cX2_mayEndGreen 11 = .ok (.invokevirtual 37, 3) := by decide +kernel
theorem dX2_mayEndGreen_14 : decode cX2_mayEndGreen 14 = .ok (.ifCond .ne 7, 3) := by decide +kernel
theorem dX2_mayEndGreen_17 : decode cX2_mayEndGreen 17 = .ok (.iconst 1, 1) := by decide +kernel
theorem dX2_mayEndGreen_18 : decode cX2_mayEndGreen 18 = .ok (.goto 4, 3) := by decide +kernel
theorem dX2_mayEndGreen_21 : decode cX2_mayEndGreen 21 = .ok (.iconst 0, 1) := by decide +kernel
theorem dX2_mayEndGreen_22 : decode cX2_mayEndGreen 22 = .ok (.istore_n 2, 1) := by decide +kernel
theorem dX2_mayEndGreen_23 : decode cX2_mayEndGreen 23 = .ok (.iload_n 2, 1) := by decide +kernel
theorem dX2_mayEndGreen_24 : decode cX2_mayEndGreen 24 = .ok (.ifCond .eq 24, 3) := by decide +kernel
theorem dX2_mayEndGreen_27 : decode cX2_mayEndGreen 27 = .ok (.aload_n 0, 1) := by decide +kernel
theorem dX2_mayEndGreen_28 : decode cX2_mayEndGreen 28 = .ok (.getfield 41, 3) := by decide +kernel
theorem dX2_mayEndGreen_31 : decode cX2_mayEndGreen 31 = .ok (.ifCond .eq 13, 3) := by decide +kernel
theorem dX2_mayEndGreen_34 : decode cX2_mayEndGreen 34 = .ok (.aload_n 0, 1) := by decide +kernel
theorem dX2_mayEndGreen_35 : decode cX2_mayEndGreen 35 = .ok (.getfield 44, 3) := by decide +kernel
theorem dX2_mayEndGreen_38 : decode cX2_mayEndGreen 38 = .ok (.aload_n 1, 1) := by decide +kernel
theorem dX2_mayEndGreen_39 : decode cX2_mayEndGreen 39 = .ok (.iconst 2, 1) := by decide +kernel
theorem dX2_mayEndGreen_40 : decode cX2_mayEndGreen 40 = .ok (.iaload, 1) := by decide +kernel
theorem dX2_mayEndGreen_41 : decode cX2_mayEndGreen 41 = .ok (.if_icmp .lt 7, 3) := by decide +kernel
theorem dX2_mayEndGreen_44 : decode cX2_mayEndGreen 44 = .ok (.iconst 1, 1) := by decide +kernel
theorem dX2_mayEndGreen_45 : decode cX2_mayEndGreen 45 = .ok (.goto 4, 3) := by decide +kernel
theorem dX2_mayEndGreen_48 : decode cX2_mayEndGreen 48 = .ok (.iconst 0, 1) := by decide +kernel
theorem dX2_mayEndGreen_49 : decode cX2_mayEndGreen 49 = .ok (.ireturn, 1) := by decide +kernel
theorem dX2_beginGreen_0 : decode cX2_beginGreen 0 = .ok (.aload_n 0, 1) := by decide +kernel
theorem dX2_beginGreen_1 : decode cX2_beginGreen 1 = .ok (.iconst 1, 1) := by decide +kernel
theorem dX2_beginGreen_2 : decode cX2_beginGreen 2 = .ok (.invokevirtual 47, 3) := by decide +kernel
theorem dX2_beginGreen_5 : decode cX2_beginGreen 5 = .ok (.aload_n 0, 1) := by decide +kernel
theorem dX2_beginGreen_6 : decode cX2_beginGreen 6 = .ok (.aload_n 0, 1) := by decide +kernel
theorem dX2_beginGreen_7 : decode cX2_beginGreen 7 = .ok (.getfield 25, 3) := by decide +kernel
theorem dX2_beginGreen_10 : decode cX2_beginGreen 10 = .ok (.putfield 19, 3) := by decide +kernel
theorem dX2_beginGreen_13 : decode cX2_beginGreen 13 = .ok (.aload_n 0, 1) := by decide +kernel
theorem dX2_beginGreen_14 : decode cX2_beginGreen 14 = .ok (.iconst (-1), 1) := by decide +kernel
theorem dX2_beginGreen_15 : decode cX2_beginGreen 15 = .ok (.putfield 25, 3) := by decide +kernel
theorem dX2_beginGreen_18 : decode cX2_beginGreen 18 = .ok (.aload_n 0, 1) := by decide +kernel
theorem dX2_beginGreen_19 : decode cX2_beginGreen 19 = .ok (.aload_n 1, 1) := by decide +kernel
theorem dX2_beginGreen_20 : decode cX2_beginGreen 20 = .ok (.getfield 51, 3) := by decide +kernel
theorem dX2_beginGreen_23 : decode cX2_beginGreen 23 = .ok (.iconst 1, 1) := by decide +kernel
theorem dX2_beginGreen_24 : decode cX2_beginGreen 24 = .ok (.iaload, 1) := by decide +kernel
theorem dX2_beginGreen_25 : decode cX2_beginGreen 25 = .ok (.putfield 41, 3) := by decide +kernel
theorem dX2_beginGreen_28 : decode cX2_beginGreen 28 = .ok (.aload_n 1, 1) := by decide +kernel
theorem dX2_beginGreen_29 : decode cX2_beginGreen 29 = .ok (.invokevirtual 57, 3) := by decide +kernel
theorem dX2_beginGreen_32 : decode cX2_beginGreen 32 = .ok (.ifCond .eq 24, 3) := by decide +kernel
theorem dX2_beginGreen_35 : decode cX2_beginGreen 35 = .ok (.aload_n 0, 1) := by decide +kernel
theorem dX2_beginGreen_36 : decode cX2_beginGreen 36 = .ok (.aload_n 1, 1) := by decide +kernel
theorem dX2_beginGreen_37 : decode cX2_beginGreen 37 = .ok (.getfield 51, 3) := by decide +kernel
theorem dX2_beginGreen_40 : decode cX2_beginGreen 40 = .ok (.iconst 5, 1) := by decide +kernel
theorem dX2_beginGreen_41 : decode cX2_beginGreen 41 = .ok (.iaload, 1) := by decide +kernel
theorem dX2_beginGreen_42 : decode cX2_beginGreen 42 = .ok (.putfield 28, 3) := by decide +kernel
theorem dX2_beginGreen_45 : decode cX2_beginGreen 45 = .ok (.aload_n 0, 1) := by decide +kernel
theorem dX2_beginGreen_46 : decode cX2_beginGreen 46 = .ok (.aload_n 1, 1) := by decide +kernel
theorem dX2_beginGreen_47 : decode cX2_beginGreen 47 = .ok (.getfield 51, 3) := by decide +kernel
theorem dX2_beginGreen_50 : decode cX2_beginGreen 50 = .ok (.bipush 6, 2) := by decide +kernel
theorem dX2_beginGreen_52 : decode cX2_beginGreen 52 = .ok (.iaload, 1) := by decide +kernel
theorem dX2_beginGreen_53 : decode cX2_beginGreen 53 = .ok (.putfield 31, 3) := by decide +kernel
theorem dX2_beginGreen_56 : decode cX2_beginGreen 56 = .ok (.return_, 1) := by decide +kernel
theorem dX2_advanceGreen_0 : decode cX2_advanceGreen 0 = .ok (.aload_n 0, 1) := by decide +kernel
theorem dX2_advanceGreen_1 : decode cX2_advanceGreen 1 = .ok (.dup, 1) := by decide +kernel
theorem dX2_advanceGreen_2 : decode cX2_advanceGreen 2 = .ok (.getfield 34, 3) := by decide +kernel
theorem dX2_advanceGreen_5 : decode cX2_advanceGreen 5 = .ok (.iconst 1, 1) := by decide +kernel
theorem dX2_advanceGreen_6 : decode cX2_advanceGreen 6 = .ok (.iadd, 1) := by decide +kernel
theorem dX2_advanceGreen_7 : decode cX2_advanceGreen 7 = .ok (.putfield 34, 3) := by decide +kernel
theorem dX2_advanceGreen_10 : decode cX2_advanceGreen 10 = .ok (.aload_n 1, 1) := by decide +kernel
theorem dX2_advanceGreen_11 : decode cX2_advanceGreen 11 = .ok (.getfield 61, 3) := by decide +kernel
theorem dX2_advanceGreen_14 : decode cX2_advanceGreen 14 = .ok (.ifCond .ne 12, 3) := by decide +kernel
theorem dX2_advanceGreen_17 : decode cX2_advanceGreen 17 = .ok (.aload_n 1, 1) := by decide +kernel
theorem dX2_advanceGreen_18 : decode cX2_advanceGreen 18 = .ok (.bipush 8, 2) := by decide +kernel
theorem dX2_advanceGreen_20 : decode cX2_advanceGreen 20 = .ok (.invokevirtual 65, 3) := by decide +kernel
theorem dX2_advanceGreen_23 : decode cX2_advanceGreen 23 = .ok (.ifCond .eq 16, 3) := by decide +kernel
theorem dX2_advanceGreen_26 : decode cX2_advanceGreen 26 = .ok (.aload_n 0, 1) := by decide +kernel
theorem dX2_advanceGreen_27 : decode cX2_advanceGreen 27 = .ok (.aload_n 1, 1) := by decide +kernel
theorem dX2_advanceGreen_28 : decode cX2_advanceGreen 28 = .ok (.getfield 51, 3) := by decide +kernel
theorem dX2_advanceGreen_31 : decode cX2_advanceGreen 31 = .ok (.iconst 1, 1) := by decide +kernel
theorem dX2_advanceGreen_32 : decode cX2_advanceGreen 32 = .ok (.iaload, 1) := by decide +kernel
theorem dX2_advanceGreen_33 : decode cX2_advanceGreen 33 = .ok (.putfield 41, 3) := by decide +kernel
theorem dX2_advanceGreen_36 : decode cX2_advanceGreen 36 = .ok (.goto 17, 3) := by decide +kernel
theorem dX2_advanceGreen_39 : decode cX2_advanceGreen 39 = .ok (.aload_n 0, 1) := by decide +kernel
theorem dX2_advanceGreen_40 : decode cX2_advanceGreen 40 = .ok (.aload_n 0, 1) := by decide +kernel
theorem dX2_advanceGreen_41 : decode cX2_advanceGreen 41 = .ok (.getfield 41, 3) := by decide +kernel
theorem dX2_advanceGreen_44 : decode cX2_advanceGreen 44 = .ok (.iconst 1, 1) := by decide +kernel
theorem dX2_advanceGreen_45 : decode cX2_advanceGreen 45 = .ok (.isub, 1) := by decide +kernel
theorem dX2_advanceGreen_46 : decode cX2_advanceGreen 46 = .ok (.iconst 0, 1) := by decide +kernel
theorem dX2_advanceGreen_47 : decode cX2_advanceGreen 47 = .ok (.invokestatic 69, 3) := by decide +kernel
theorem dX2_advanceGreen_50 : decode cX2_advanceGreen 50 = .ok (.putfield 41, 3) := by decide +kernel
theorem dX2_advanceGreen_53 : decode cX2_advanceGreen 53 = .ok (.aload_n 0, 1) := by decide +kernel
theorem dX2_advanceGreen_54 : decode cX2_advanceGreen 54 = .ok (.iload_n 2, 1) := by decide +kernel
theorem dX2_advanceGreen_55 : decode cX2_advanceGreen 55 = .ok (.ifCond .eq 12, 3) := by decide +kernel
theorem dX2_advanceGreen_58 : decode cX2_advanceGreen 58 = .ok (.aload_n 0, 1) := by decide +kernel
theorem dX2_advanceGreen_59 : decode cX2_advanceGreen 59 = .ok (.getfield 44, 3) := by decide +kernel
theorem dX2_advanceGreen_62 : decode cX2_advanceGreen 62 = .ok (.iconst 1, 1) := by decide +kernel
theorem dX2_advanceGreen_63 : decode cX2_advanceGreen 63 = .ok (.iadd, 1) := by decide +kernel
theorem dX2_advanceGreen_64 : decode cX2_advanceGreen 64 = .ok (.goto 4, 3) := by decide +kernel
theorem dX2_advanceGreen_67 : decode cX2_advanceGreen 67 = .ok (.iconst 0, 1) := by decide +kernel
theorem dX2_advanceGreen_68 : decode cX2_advanceGreen 68 = .ok (.putfield 44, 3) := by decide +kernel
theorem dX2_advanceGreen_71 : decode cX2_advanceGreen 71 = .ok (.aload_n 0, 1) := by decide +kernel
theorem dX2_advanceGreen_72 : decode cX2_advanceGreen 72 = .ok (.getfield 28, 3) := by decide +kernel
theorem dX2_advanceGreen_75 : decode cX2_advanceGreen 75 = .ok (.ifCond .le 16, 3) := by decide +kernel
theorem dX2_advanceGreen_78 : decode cX2_advanceGreen 78 = .ok (.aload_n 0, 1) := by decide +kernel
theorem dX2_advanceGreen_79 : decode cX2_advanceGreen 79 = .ok (.dup, 1) := by decide +kernel
theorem dX2_advanceGreen_80 : decode cX2_advanceGreen 80 = .ok (.getfield 28, 3) := by decide +kernel
theorem dX2_advanceGreen_83 : decode cX2_advanceGreen 83 = .ok (.iconst 1, 1) := by decide +kernel
theorem dX2_advanceGreen_84 : decode cX2_advanceGreen 84 = .ok (.isub, 1) := by decide +kernel
theorem dX2_advanceGreen_85 : decode cX2_advanceGreen 85 = .ok (.putfield 28, 3) := by decide +kernel
theorem dX2_advanceGreen_88 : decode cX2_advanceGreen 88 = .ok (.goto 20, 3) := by decide +kernel
theorem dX2_advanceGreen_91 : decode cX2_advanceGreen 91 = .ok (.aload_n 0, 1) := by decide +kernel
theorem dX2_advanceGreen_92 : decode cX2_advanceGreen 92 = .ok (.getfield 31, 3) := by decide +kernel
theorem dX2_advanceGreen_95 : decode cX2_advanceGreen 95 = .ok (.ifCond .le 13, 3) := by decide +kernel
theorem dX2_advanceGreen_98 : decode cX2_advanceGreen 98 = .ok (.aload_n 0, 1) := by decide +kernel
theorem dX2_advanceGreen_99 : decode cX2_advanceGreen 99 = .ok (.dup, 1) := by decide +kernel
theorem dX2_advanceGreen_100 : decode cX2_advanceGreen 100 = .ok (.getfield 31, 3) := by decide +kernel
theorem dX2_advanceGreen_103 : decode cX2_advanceGreen 103 = .ok (.iconst 1, 1) := by decide +kernel
theorem dX2_advanceGreen_104 : decode cX2_advanceGreen 104 = .ok (.isub, 1) := by decide +kernel
theorem dX2_advanceGreen_105 : decode cX2_advanceGreen 105 = .ok (.putfield 31, 3) := by decide +kernel
theorem dX2_advanceGreen_108 : decode cX2_advanceGreen 108 = .ok (.return_, 1) := by decide +kernel
theorem dX2_endGreen_0 : decode cX2_endGreen 0 = .ok (.aload_n 0, 1) := by decide +kernel
theorem dX2_endGreen_1 : decode cX2_endGreen 1 = .ok (.iconst 2, 1) := by decide +kernel
theorem dX2_endGreen_2 : decode cX2_endGreen 2 = .ok (.invokevirtual 47, 3) := by decide +kernel
theorem dX2_endGreen_5 : decode cX2_endGreen 5 = .ok (.aload_n 0, 1) := by decide +kernel
theorem dX2_endGreen_6 : decode cX2_endGreen 6 = .ok (.iload_n 1, 1) := by decide +kernel
theorem dX2_endGreen_7 : decode cX2_endGreen 7 = .ok (.putfield 25, 3) := by decide +kernel
theorem dX2_endGreen_10 : decode cX2_endGreen 10 = .ok (.return_, 1) := by decide +kernel
theorem dX2_advanceEnding_0 : decode cX2_advanceEnding 0 = .ok (.aload_n 0, 1) := by decide +kernel
theorem dX2_advanceEnding_1 : decode cX2_advanceEnding 1 = .ok (.dup, 1) := by decide +kernel
theorem dX2_advanceEnding_2 : decode cX2_advanceEnding 2 = .ok (.getfield 34, 3) := by decide +kernel
theorem dX2_advanceEnding_5 : decode cX2_advanceEnding 5 = .ok (.iconst 1, 1) := by decide +kernel
theorem dX2_advanceEnding_6 : decode cX2_advanceEnding 6 = .ok (.iadd, 1) := by decide +kernel
theorem dX2_advanceEnding_7 : decode cX2_advanceEnding 7 = .ok (.putfield 34, 3) := by decide +kernel
theorem dX2_advanceEnding_10 : decode cX2_advanceEnding 10 = .ok (.aload_n 0, 1) := by decide +kernel
theorem dX2_advanceEnding_11 : decode cX2_advanceEnding 11 = .ok (.getfield 22, 3) := by decide +kernel
theorem dX2_advanceEnding_14 : decode cX2_advanceEnding 14 = .ok (.iconst 2, 1) := by decide +kernel
theorem dX2_advanceEnding_15 : decode cX2_advanceEnding 15 = .ok (.if_icmp .ne 21, 3) := by decide +kernel
theorem dX2_advanceEnding_18 : decode cX2_advanceEnding 18 = .ok (.aload_n 0, 1) := by decide +kernel
theorem dX2_advanceEnding_19 : decode cX2_advanceEnding 19 = .ok (.getfield 34, 3) := by decide +kernel
theorem dX2_advanceEnding_22 : decode cX2_advanceEnding 22 = .ok (.aload_n 1, 1) := by decide +kernel
theorem dX2_advanceEnding_23 : decode cX2_advanceEnding 23 = .ok (.getfield 51, 3) := by decide +kernel
theorem dX2_advanceEnding_26 : decode cX2_advanceEnding 26 = .ok (.iconst 3, 1) := by decide +kernel
theorem dX2_advanceEnding_27 : decode cX2_advanceEnding 27 = .ok (.iaload, 1) := by decide +kernel
theorem dX2_advanceEnding_28 : decode cX2_advanceEnding 28 = .ok (.if_icmp .lt 8, 3) := by decide +kernel
theorem dX2_advanceEnding_31 : decode cX2_advanceEnding 31 = .ok (.aload_n 0, 1) := by decide +kernel
theorem dX2_advanceEnding_32 : decode cX2_advanceEnding 32 = .ok (.iconst 3, 1) := by decide +kernel
theorem dX2_advanceEnding_33 : decode cX2_advanceEnding 33 = .ok (.invokevirtual 47, 3) := by decide +kernel
theorem dX2_advanceEnding_36 : decode cX2_advanceEnding 36 = .ok (.aload_n 0, 1) := by decide +kernel
theorem dX2_advanceEnding_37 : decode cX2_advanceEnding 37 = .ok (.getfield 22, 3) := by decide +kernel
theorem dX2_advanceEnding_40 : decode cX2_advanceEnding 40 = .ok (.iconst 3, 1) := by decide +kernel
theorem dX2_advanceEnding_41 : decode cX2_advanceEnding 41 = .ok (.if_icmp .ne 20, 3) := by decide +kernel
theorem dX2_advanceEnding_44 : decode cX2_advanceEnding 44 = .ok (.aload_n 0, 1) := by decide +kernel
theorem dX2_advanceEnding_45 : decode cX2_advanceEnding 45 = .ok (.getfield 34, 3) := by decide +kernel
theorem dX2_advanceEnding_48 : decode cX2_advanceEnding 48 = .ok (.aload_n 1, 1) := by decide +kernel
theorem dX2_advanceEnding_49 : decode cX2_advanceEnding 49 = .ok (.getfield 51, 3) := by decide +kernel
theorem dX2_advanceEnding_52 : decode cX2_advanceEnding 52 = .ok (.iconst 4, 1) := by decide +kernel
theorem dX2_advanceEnding_53 : decode cX2_advanceEnding 53 = .ok (.iaload, 1) := by decide +kernel
theorem dX2_advanceEnding_54 : decode cX2_advanceEnding 54 = .ok (.if_icmp .lt 7, 3) := by decide +kernel
theorem dX2_advanceEnding_57 : decode cX2_advanceEnding 57 = .ok (.aload_n 0, 1) := by decide +kernel
theorem dX2_advanceEnding_58 : decode cX2_advanceEnding 58 = .ok (.invokevirtual 75, 3) := by decide +kernel
theorem dX2_advanceEnding_61 : decode cX2_advanceEnding 61 = .ok (.return_, 1) := by decide +kernel
theorem dX2_goDark_0 : decode cX2_goDark 0 = .ok (.aload_n 0, 1) := by decide +kernel
theorem dX2_goDark_1 : decode cX2_goDark 1 = .ok (.iconst 0, 1) := by decide +kernel
theorem dX2_goDark_2 : decode cX2_goDark 2 = .ok (.invokevirtual 47, 3) := by decide +kernel
theorem dX2_goDark_5 : decode cX2_goDark 5 = .ok (.aload_n 0, 1) := by decide +kernel
theorem dX2_goDark_6 : decode cX2_goDark 6 = .ok (.iconst (-1), 1) := by decide +kernel
theorem dX2_goDark_7 : decode cX2_goDark 7 = .ok (.putfield 19, 3) := by decide +kernel
theorem dX2_goDark_10 : decode cX2_goDark 10 = .ok (.return_, 1) := by decide +kernel
theorem dX2_enter_0 : decode cX2_enter 0 = .ok (.aload_n 0, 1) := by decide +kernel
theorem dX2_enter_1 : decode cX2_enter 1 = .ok (.iload_n 1, 1) := by decide +kernel
theorem dX2_enter_2 : decode cX2_enter 2 = .ok (.putfield 22, 3) := by decide +kernel
theorem dX2_enter_5 : decode cX2_enter 5 = .ok (.aload_n 0, 1) := by decide +kernel
theorem dX2_enter_6 : decode cX2_enter 6 = .ok (.iconst 0, 1) := by decide +kernel
theorem dX2_enter_7 : decode cX2_enter 7 = .ok (.putfield 34, 3) := by decide +kernel
theorem dX2_enter_10 : decode cX2_enter 10 = .ok (.aload_n 0, 1) := by decide +kernel
theorem dX2_enter_11 : decode cX2_enter 11 = .ok (.iconst 0, 1) := by decide +kernel
theorem dX2_enter_12 : decode cX2_enter 12 = .ok (.putfield 41, 3) := by decide +kernel
theorem dX2_enter_15 : decode cX2_enter 15 = .ok (.aload_n 0, 1) := by decide +kernel
theorem dX2_enter_16 : decode cX2_enter 16 = .ok (.iconst 0, 1) := by decide +kernel
theorem dX2_enter_17 : decode cX2_enter 17 = .ok (.putfield 44, 3) := by decide +kernel
theorem dX2_enter_20 : decode cX2_enter 20 = .ok (.aload_n 0, 1) := by decide +kernel
theorem dX2_enter_21 : decode cX2_enter 21 = .ok (.iconst 0, 1) := by decide +kernel
theorem dX2_enter_22 : decode cX2_enter 22 = .ok (.putfield 28, 3) := by decide +kernel
theorem dX2_enter_25 : decode cX2_enter 25 = .ok (.aload_n 0, 1) := by decide +kernel
theorem dX2_enter_26 : decode cX2_enter 26 = .ok (.iconst 0, 1) := by decide +kernel
theorem dX2_enter_27 : decode cX2_enter 27 = .ok (.putfield 31, 3) := by decide +kernel
theorem dX2_enter_30 : decode cX2_enter 30 = .ok (.return_, 1) := by decide +kernel
