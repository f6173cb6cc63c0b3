theorem dX0_init_0 : decode cX0_init 0 = .ok (.aload_n 0, 1) := by decide +kernel
theorem dX0_init_1 : decode cX0_init 1 = .ok (.invokespecial 3, 3) := by decide +kernel
theorem dX0_init_4 : decode cX0_init 4 = .ok (.aload_n 0, 1) := by decide +kernel
theorem dX0_init_5 : decode cX0_init 5 = .ok (.bipush 8, 2) := by decide +kernel
theorem dX0_init_7 : decode cX0_init 7 = .ok (.newarray .int, 2) := by decide +kernel
theorem dX0_init_9 : decode cX0_init 9 = .ok (.putfield 9, 3) := by decide +kernel
theorem dX0_init_12 : decode cX0_init 12 = .ok (.aload_n 0, 1) := by decide +kernel
theorem dX0_init_13 : decode cX0_init 13 = .ok (.bipush 8, 2) := by decide +kernel
theorem dX0_init_15 : decode cX0_init 15 = .ok (.newarray .int, 2) := by decide +kernel
theorem dX0_init_17 : decode cX0_init 17 = .ok (.putfield 15, 3) := by decide +kernel
theorem dX0_init_20 : decode cX0_init 20 = .ok (.return_, 1) := by decide +kernel
theorem dX0_forget_0 : decode cX0_forget 0 = .ok (.iconst 0, 1) := by decide +kernel
theorem dX0_forget_1 : decode cX0_forget 1 = .ok (.istore_n 1, 1) := by decide +kernel
theorem dX0_forget_2 : decode cX0_forget 2 = .ok (.iload_n 1, 1) := by decide +kernel
theorem dX0_forget_3 : decode cX0_forget 3 = .ok (.bipush 8, 2) := by decide +kernel
theorem dX0_forget_5 : decode cX0_forget 5 = .ok (.if_icmp .ge 23, 3) := by decide +kernel
theorem dX0_forget_8 : decode cX0_forget 8 = .ok (.aload_n 0, 1) := by decide +kernel
theorem dX0_forget_9 : decode cX0_forget 9 = .ok (.getfield 9, 3) := by decide +kernel
theorem dX0_forget_12 : decode cX0_forget 12 = .ok (.iload_n 1, 1) := by decide +kernel
theorem dX0_forget_13 : decode cX0_forget 13 = .ok (.iconst 0, 1) := by decide +kernel
theorem dX0_forget_14 : decode cX0_forget 14 = .ok (.iastore, 1) := by decide +kernel
theorem dX0_forget_15 : decode cX0_forget 15 = .ok (.aload_n 0, 1) := by decide +kernel
theorem dX0_forget_16 : decode cX0_forget 16 = .ok (.getfield 15, 3) := by decide +kernel
theorem dX0_forget_19 : decode cX0_forget 19 = .ok (.iload_n 1, 1) := by decide +kernel
theorem dX0_forget_20 : decode cX0_forget 20 = .ok (.iconst 0, 1) := by decide +kernel
theorem dX0_forget_21 : decode cX0_forget 21 = .ok (.iastore, 1) := by decide +kernel
theorem dX0_forget_22 : decode cX0_forget 22 = .ok (.iinc 1 1, 3) := by decide +kernel
theorem dX0_forget_25 : decode cX0_forget 25 = .ok (.goto (-23), 3) := by decide +kernel
theorem dX0_forget_28 : decode cX0_forget 28 = .ok (.aload_n 0, 1) := by decide +kernel
theorem dX0_forget_29 : decode cX0_forget 29 = .ok (.iconst 0, 1) := by decide +kernel
theorem dX0_forget_30 : decode cX0_forget 30 = .ok (.putfield 18, 3) := by decide +kernel
theorem dX0_forget_33 : decode cX0_forget 33 = .ok (.aload_n 0, 1) := by decide +kernel
theorem dX0_forget_34 : decode cX0_forget 34 = .ok (.iconst 0, 1) := by decide +kernel
theorem dX0_forget_35 : decode cX0_forget 35 = .ok (.putfield 22, 3) := by decide +kernel
theorem dX0_forget_38 : decode cX0_forget 38 = .ok (.return_, 1) := by decide +kernel
theorem dX0_look_0 : decode cX0_look 0 = .ok (.aload_n 1, 1) := by decide +kernel
theorem dX0_look_1 : decode cX0_look 1 = .ok (.invokestatic 26, 3) := by decide +kernel
theorem dX0_look_4 : decode cX0_look 4 = .ok (.istore_n 2, 1) := by decide +kernel
theorem dX0_look_5 : decode cX0_look 5 = .ok (.aload_n 0, 1) := by decide +kernel
theorem dX0_look_6 : decode cX0_look 6 = .ok (.aload_n 0, 1) := by decide +kernel
theorem dX0_look_7 : decode cX0_look 7 = .ok (.aload_n 1, 1) := by decide +kernel
theorem dX0_look_8 : decode cX0_look 8 = .ok (.iload_n 2, 1) := by decide +kernel
theorem dX0_look_9 : decode cX0_look 9 = .ok (.invokevirtual 30, 3) := by decide +kernel
theorem dX0_look_12 : decode cX0_look 12 = .ok (.putfield 22, 3) := by decide +kernel
theorem dX0_look_15 : decode cX0_look 15 = .ok (.aload_n 0, 1) := by decide +kernel
theorem dX0_look_16 : decode cX0_look 16 = .ok (.iload_n 2, 1) := by decide +kernel
theorem dX0_look_17 : decode cX0_look 17 = .ok (.putfield 18, 3) := by decide +kernel
theorem dX0_look_20 : decode cX0_look 20 = .ok (.iconst 0, 1) := by decide +kernel
theorem dX0_look_21 : decode cX0_look 21 = .ok (.istore_n 3, 1) := by decide +kernel
theorem dX0_look_22 : decode cX0_look 22 = .ok (.iload_n 3, 1) := by decide +kernel
theorem dX0_look_23 : decode cX0_look 23 = .ok (.bipush 8, 2) := by decide +kernel
theorem dX0_look_25 : decode cX0_look 25 = .ok (.if_icmp .ge 43, 3) := by decide +kernel
theorem dX0_look_28 : decode cX0_look 28 = .ok (.aload_n 0, 1) := by decide +kernel
theorem dX0_look_29 : decode cX0_look 29 = .ok (.getfield 9, 3) := by decide +kernel
theorem dX0_look_32 : decode cX0_look 32 = .ok (.iload_n 3, 1) := by decide +kernel
theorem dX0_look_33 : decode cX0_look 33 = .ok (.aload_n 1, 1) := by decide +kernel
theorem dX0_look_34 : decode cX0_look 34 = .ok (.iload_n 3, 1) := by decide +kernel
theorem dX0_look_35 : decode cX0_look 35 = .ok (.iaload, 1) := by decide +kernel
theorem dX0_look_36 : decode cX0_look 36 = .ok (.iastore, 1) := by decide +kernel
theorem dX0_look_37 : decode cX0_look 37 = .ok (.aload_n 0, 1) := by decide +kernel
theorem dX0_look_38 : decode cX0_look 38 = .ok (.getfield 15, 3) := by decide +kernel
theorem dX0_look_41 : decode cX0_look 41 = .ok (.iload_n 3, 1) := by decide +kernel
theorem dX0_look_42 : decode cX0_look 42 = .ok (.aload_n 1, 1) := by decide +kernel
theorem dX0_look_43 : decode cX0_look 43 = .ok (.iload_n 3, 1) := by decide +kernel
theorem dX0_look_44 : decode cX0_look 44 = .ok (.iaload, 1) := by decide +kernel
theorem dX0_look_45 : decode cX0_look 45 = .ok (.iconst 1, 1) := by decide +kernel
theorem dX0_look_46 : decode cX0_look 46 = .ok (.if_icmp .ne 14, 3) := by decide +kernel
theorem dX0_look_49 : decode cX0_look 49 = .ok (.aload_n 0, 1) := by decide +kernel
theorem dX0_look_50 : decode cX0_look 50 = .ok (.getfield 15, 3) := by decide +kernel
theorem dX0_look_53 : decode cX0_look 53 = .ok (.iload_n 3, 1) := by decide +kernel
theorem dX0_look_54 : decode cX0_look 54 = .ok (.iaload, 1) := by decide +kernel
theorem dX0_look_55 : decode cX0_look 55 = .ok (.iconst 1, 1) := by decide +kernel
theorem dX0_look_56 : decode cX0_look 56 = .ok (.iadd, 1) := by decide +kernel
theorem dX0_look_57 : decode cX0_look 57 = .ok (.goto 4, 3) := by decide +kernel
theorem dX0_look_60 : decode cX0_look 60 = .ok (.iconst 0, 1) := by decide +kernel
theorem dX0_look_61 : decode cX0_look 61 = .ok (.iastore, 1) := by decide +kernel
theorem dX0_look_62 : decode cX0_look 62 = .ok (.iinc 3 1, 3) := by decide +kernel
theorem dX0_look_65 : decode cX0_look 65 = .ok (.goto (-43), 3) := by decide +kernel
theorem dX0_look_68 : decode cX0_look 68 = .ok (.return_, 1) := by decide +kernel
theorem dX0_leastFault_0 : decode cX0_leastFault 0 = .ok (.iload_n 2, 1) := by decide +kernel
theorem dX0_leastFault_1 : decode cX0_leastFault 1 = .ok (.ifCond .eq 12, 3) := by decide +kernel
theorem dX0_leastFault_4 : decode cX0_leastFault 4 = .ok (.aload_n 0, 1) := by decide +kernel
theorem dX0_leastFault_5 : decode cX0_leastFault 5 = .ok (.getfield 18, 3) := by decide +kernel
theorem dX0_leastFault_8 : decode cX0_leastFault 8 = .ok (.ifCond .eq 5, 3) := by decide +kernel
theorem dX0_leastFault_11 : decode cX0_leastFault 11 = .ok (.iconst 1, 1) := by decide +kernel
theorem dX0_leastFault_12 : decode cX0_leastFault 12 = .ok (.ireturn, 1) := by decide +kernel
theorem dX0_leastFault_13 : decode cX0_leastFault 13 = .ok (.iconst 0, 1) := by decide +kernel
theorem dX0_leastFault_14 : decode cX0_leastFault 14 = .ok (.istore_n 3, 1) := by decide +kernel
theorem dX0_leastFault_15 : decode cX0_leastFault 15 = .ok (.iconst 0, 1) := by decide +kernel
theorem dX0_leastFault_16 : decode cX0_leastFault 16 = .ok (.istore 4, 2) := by decide +kernel
theorem dX0_leastFault_18 : decode cX0_leastFault 18 = .ok (.iload 4, 2) := by decide +kernel
theorem dX0_leastFault_20 : decode cX0_leastFault 20 = .ok (.bipush 8, 2) := by decide +kernel
theorem dX0_leastFault_22 : decode cX0_leastFault 22 = .ok (.if_icmp .ge 47, 3) := by decide +kernel
theorem dX0_leastFault_25 : decode cX0_leastFault 25 = .ok (.aload_n 1, 1) := by decide +kernel
theorem dX0_leastFault_26 : decode cX0_leastFault 26 = .ok (.iload 4, 2) := by decide +kernel
theorem dX0_leastFault_28 : decode cX0_leastFault 28 = .ok (.iaload, 1) := by decide +kernel
theorem dX0_leastFault_29 : decode cX0_leastFault 29 = .ok (.ifCond .ne 16, 3) := by decide +kernel
theorem dX0_leastFault_32 : decode cX0_leastFault 32 = .ok (.aload_n 0, 1) := by decide +kernel
theorem dX0_leastFault_33 : decode cX0_leastFault 33 = .ok (.getfield 9, 3) := by decide +kernel
theorem dX0_leastFault_36 : decode cX0_leastFault 36 = .ok (.iload 4, 2) := by decide +kernel
theorem dX0_leastFault_38 : decode cX0_leastFault 38 = .ok (.iaload, 1) := by decide +kernel
theorem dX0_leastFault_39 : decode cX0_leastFault 39 = .ok (.iconst 2, 1) := by decide +kernel
theorem dX0_leastFault_40 : decode cX0_leastFault 40 = .ok (.if_icmp .ne 5, 3) := by decide +kernel
theorem dX0_leastFault_43 : decode cX0_leastFault 43 = .ok (.iconst 2, 1) := by decide +kernel
theorem dX0_leastFault_44 : decode cX0_leastFault 44 = .ok (.ireturn, 1) := by decide +kernel
theorem dX0_leastFault_45 : decode cX0_leastFault 45 = .ok (.aload_n 1, 1) := by decide +kernel
theorem dX0_leastFault_46 : decode cX0_leastFault 46 = .ok (.iload 4, 2) := by decide +kernel
theorem dX0_leastFault_48 : decode cX0_leastFault 48 = .ok (.iaload, 1) := by decide +kernel
theorem dX0_leastFault_49 : decode cX0_leastFault 49 = .ok (.ifCond .ne 14, 3) := by decide +kernel
theorem dX0_leastFault_52 : decode cX0_leastFault 52 = .ok (.aload_n 0, 1) := by decide +kernel
theorem dX0_leastFault_53 : decode cX0_leastFault 53 = .ok (.iload 4, 2) := by decide +kernel
theorem dX0_leastFault_55 : decode cX0_leastFault 55 = .ok (.invokevirtual 34, 3) := by decide +kernel
theorem dX0_leastFault_58 : decode cX0_leastFault 58 = .ok (.ifCond .eq 5, 3) := by decide +kernel
theorem dX0_leastFault_61 : decode cX0_leastFault 61 = .ok (.iconst 3, 1) := by decide +kernel
theorem dX0_leastFault_62 : decode cX0_leastFault 62 = .ok (.istore_n 3, 1) := by decide +kernel
theorem dX0_leastFault_63 : decode cX0_leastFault 63 = .ok (.iinc 4 1, 3) := by decide +kernel
theorem dX0_leastFault_66 : decode cX0_leastFault 66 = .ok (.goto (-48), 3) := by decide +kernel
theorem dX0_leastFault_69 : decode cX0_leastFault 69 = .ok (.iload_n 3, 1) := by decide +kernel
theorem dX0_leastFault_70 : decode cX0_leastFault 70 = .ok (.ireturn, 1) := by decide +kernel
theorem dX0_hadShortYellow_0 : decode cX0_hadShortYellow 0 = .ok (.aload_n 0, 1) := by decide +kernel
theorem dX0_hadShortYellow_1 : decode cX0_hadShortYellow 1 = .ok (.getfield 9, 3) := by decide +kernel
theorem dX0_hadShortYellow_4 : decode cX0_hadShortYellow 4 = .ok (.iload_n 1, 1) := by decide +kernel
theorem dX0_hadShortYellow_5 : decode cX0_hadShortYellow 5 = .ok (.iaload, 1) := by decide +kernel
theorem dX0_hadShortYellow_6 : decode cX0_hadShortYellow 6 = .ok (.iconst 1, 1) := by decide +kernel
theorem dX0_hadShortYellow_7 : decode cX0_hadShortYellow 7 = .ok (.if_icmp .ne 17, 3) := by decide +kernel
theorem dX0_hadShortYellow_10 : decode cX0_hadShortYellow 10 = .ok (.aload_n 0, 1) := by decide +kernel
theorem dX0_hadShortYellow_11 : decode cX0_hadShortYellow 11 = .ok (.getfield 15, 3) := by decide +kernel
theorem dX0_hadShortYellow_14 : decode cX0_hadShortYellow 14 = .ok (.iload_n 1, 1) := by decide +kernel
theorem dX0_hadShortYellow_15 : decode cX0_hadShortYellow 15 = .ok (.iaload, 1) := by decide +kernel
theorem dX0_hadShortYellow_16 : decode cX0_hadShortYellow 16 = .ok (.iconst 3, 1) := by decide +kernel
theorem dX0_hadShortYellow_17 : decode cX0_hadShortYellow 17 = .ok (.if_icmp .ge 7, 3) := by decide +kernel
theorem dX0_hadShortYellow_20 : decode cX0_hadShortYellow 20 = .ok (.iconst 1, 1) := by decide +kernel
theorem dX0_hadShortYellow_21 : decode cX0_hadShortYellow 21 = .ok (.goto 4, 3) := by decide +kernel
theorem dX0_hadShortYellow_24 : decode cX0_hadShortYellow 24 = .ok (.iconst 0, 1) := by decide +kernel
theorem dX0_hadShortYellow_25 : decode cX0_hadShortYellow 25 = .ok (.ireturn, 1) := by decide +kernel
