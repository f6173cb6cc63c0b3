theorem dX3_init_0 : decode cX3_init 0 = .ok (.aload_n 0, 1) := by decide +kernel
theorem dX3_init_1 : decode cX3_init 1 = .ok (.invokespecial 1, 3) := by decide +kernel
theorem dX3_init_4 : decode cX3_init 4 = .ok (.aload_n 0, 1) := by decide +kernel
theorem dX3_init_5 : decode cX3_init 5 = .ok (.bipush 8, 2) := by decide +kernel
theorem dX3_init_7 : decode cX3_init 7 = .ok (.anewarray 9, 3) := by decide +kernel
theorem dX3_init_10 : decode cX3_init 10 = .ok (.putfield 11, 3) := by decide +kernel
theorem dX3_init_13 : decode cX3_init 13 = .ok (.iconst 0, 1) := by decide +kernel
theorem dX3_init_14 : decode cX3_init 14 = .ok (.istore_n 1, 1) := by decide +kernel
theorem dX3_init_15 : decode cX3_init 15 = .ok (.iload_n 1, 1) := by decide +kernel
theorem dX3_init_16 : decode cX3_init 16 = .ok (.bipush 8, 2) := by decide +kernel
theorem dX3_init_18 : decode cX3_init 18 = .ok (.if_icmp .ge 22, 3) := by decide +kernel
theorem dX3_init_21 : decode cX3_init 21 = .ok (.aload_n 0, 1) := by decide +kernel
theorem dX3_init_22 : decode cX3_init 22 = .ok (.getfield 11, 3) := by decide +kernel
theorem dX3_init_25 : decode cX3_init 25 = .ok (.iload_n 1, 1) := by decide +kernel
theorem dX3_init_26 : decode cX3_init 26 = .ok (.new 9, 3) := by decide +kernel
theorem dX3_init_29 : decode cX3_init 29 = .ok (.dup, 1) := by decide +kernel
theorem dX3_init_30 : decode cX3_init 30 = .ok (.invokespecial 15, 3) := by decide +kernel
theorem dX3_init_33 : decode cX3_init 33 = .ok (.aastore, 1) := by decide +kernel
theorem dX3_init_34 : decode cX3_init 34 = .ok (.iinc 1 1, 3) := by decide +kernel
theorem dX3_init_37 : decode cX3_init 37 = .ok (.goto (-22), 3) := by decide +kernel
theorem dX3_init_40 : decode cX3_init 40 = .ok (.aload_n 0, 1) := by decide +kernel
theorem dX3_init_41 : decode cX3_init 41 = .ok (.iconst 2, 1) := by decide +kernel
theorem dX3_init_42 : decode cX3_init 42 = .ok (.anewarray 16, 3) := by decide +kernel
theorem dX3_init_45 : decode cX3_init 45 = .ok (.putfield 18, 3) := by decide +kernel
theorem dX3_init_48 : decode cX3_init 48 = .ok (.iconst 0, 1) := by decide +kernel
theorem dX3_init_49 : decode cX3_init 49 = .ok (.istore_n 1, 1) := by decide +kernel
theorem dX3_init_50 : decode cX3_init 50 = .ok (.iload_n 1, 1) := by decide +kernel
theorem dX3_init_51 : decode cX3_init 51 = .ok (.iconst 2, 1) := by decide +kernel
theorem dX3_init_52 : decode cX3_init 52 = .ok (.if_icmp .ge 25, 3) := by decide +kernel
theorem dX3_init_55 : decode cX3_init 55 = .ok (.aload_n 0, 1) := by decide +kernel
theorem dX3_init_56 : decode cX3_init 56 = .ok (.getfield 18, 3) := by decide +kernel
theorem dX3_init_59 : decode cX3_init 59 = .ok (.iload_n 1, 1) := by decide +kernel
theorem dX3_init_60 : decode cX3_init 60 = .ok (.new 16, 3) := by decide +kernel
theorem dX3_init_63 : decode cX3_init 63 = .ok (.dup, 1) := by decide +kernel
theorem dX3_init_64 : decode cX3_init 64 = .ok (.iconst 4, 1) := by decide +kernel
theorem dX3_init_65 : decode cX3_init 65 = .ok (.iload_n 1, 1) := by decide +kernel
theorem dX3_init_66 : decode cX3_init 66 = .ok (.imul, 1) := by decide +kernel
theorem dX3_init_67 : decode cX3_init 67 = .ok (.invokespecial 22, 3) := by decide +kernel
theorem dX3_init_70 : decode cX3_init 70 = .ok (.aastore, 1) := by decide +kernel
theorem dX3_init_71 : decode cX3_init 71 = .ok (.iinc 1 1, 3) := by decide +kernel
theorem dX3_init_74 : decode cX3_init 74 = .ok (.goto (-24), 3) := by decide +kernel
theorem dX3_init_77 : decode cX3_init 77 = .ok (.aload_n 0, 1) := by decide +kernel
theorem dX3_init_78 : decode cX3_init 78 = .ok (.new 25, 3) := by decide +kernel
theorem dX3_init_81 : decode cX3_init 81 = .ok (.dup, 1) := by decide +kernel
theorem dX3_init_82 : decode cX3_init 82 = .ok (.invokespecial 27, 3) := by decide +kernel
theorem dX3_init_85 : decode cX3_init 85 = .ok (.putfield 28, 3) := by decide +kernel
theorem dX3_init_88 : decode cX3_init 88 = .ok (.aload_n 0, 1) := by decide +kernel
theorem dX3_init_89 : decode cX3_init 89 = .ok (.bipush 8, 2) := by decide +kernel
theorem dX3_init_91 : decode cX3_init 91 = .ok (.newarray .int, 2) := by decide +kernel
theorem dX3_init_93 : decode cX3_init 93 = .ok (.putfield 32, 3) := by decide +kernel
theorem dX3_init_96 : decode cX3_init 96 = .ok (.return_, 1) := by decide +kernel
theorem dX3_set_0 : decode cX3_set 0 = .ok (.iload_n 1, 1) := by decide +kernel
theorem dX3_set_1 : decode cX3_set 1 = .ok (.invokestatic 36, 3) := by decide +kernel
theorem dX3_set_4 : decode cX3_set 4 = .ok (.ifCond .eq 13, 3) := by decide +kernel
theorem dX3_set_7 : decode cX3_set 7 = .ok (.iload_n 2, 1) := by decide +kernel
theorem dX3_set_8 : decode cX3_set 8 = .ok (.ifCond .lt 9, 3) := by decide +kernel
theorem dX3_set_11 : decode cX3_set 11 = .ok (.iload_n 2, 1) := by decide +kernel
theorem dX3_set_12 : decode cX3_set 12 = .ok (.bipush 7, 2) := by decide +kernel
theorem dX3_set_14 : decode cX3_set 14 = .ok (.if_icmp .lt 5, 3) := by decide +kernel
theorem dX3_set_17 : decode cX3_set 17 = .ok (.iconst 0, 1) := by decide +kernel
theorem dX3_set_18 : decode cX3_set 18 = .ok (.ireturn, 1) := by decide +kernel
theorem dX3_set_19 : decode cX3_set 19 = .ok (.iload_n 3, 1) := by decide +kernel
theorem dX3_set_20 : decode cX3_set 20 = .ok (.getstatic 40, 3) := by decide +kernel
theorem dX3_set_23 : decode cX3_set 23 = .ok (.iload_n 2, 1) := by decide +kernel
theorem dX3_set_24 : decode cX3_set 24 = .ok (.iaload, 1) := by decide +kernel
theorem dX3_set_25 : decode cX3_set 25 = .ok (.if_icmp .lt 12, 3) := by decide +kernel
theorem dX3_set_28 : decode cX3_set 28 = .ok (.iload_n 3, 1) := by decide +kernel
theorem dX3_set_29 : decode cX3_set 29 = .ok (.getstatic 43, 3) := by decide +kernel
theorem dX3_set_32 : decode cX3_set 32 = .ok (.iload_n 2, 1) := by decide +kernel
theorem dX3_set_33 : decode cX3_set 33 = .ok (.iaload, 1) := by decide +kernel
theorem dX3_set_34 : decode cX3_set 34 = .ok (.if_icmp .le 5, 3) := by decide +kernel
theorem dX3_set_37 : decode cX3_set 37 = .ok (.iconst 0, 1) := by decide +kernel
theorem dX3_set_38 : decode cX3_set 38 = .ok (.ireturn, 1) := by decide +kernel
theorem dX3_set_39 : decode cX3_set 39 = .ok (.aload_n 0, 1) := by decide +kernel
theorem dX3_set_40 : decode cX3_set 40 = .ok (.getfield 11, 3) := by decide +kernel
theorem dX3_set_43 : decode cX3_set 43 = .ok (.iload_n 1, 1) := by decide +kernel
theorem dX3_set_44 : decode cX3_set 44 = .ok (.aaload, 1) := by decide +kernel
theorem dX3_set_45 : decode cX3_set 45 = .ok (.getfield 46, 3) := by decide +kernel
theorem dX3_set_48 : decode cX3_set 48 = .ok (.iload_n 2, 1) := by decide +kernel
theorem dX3_set_49 : decode cX3_set 49 = .ok (.iload_n 3, 1) := by decide +kernel
theorem dX3_set_50 : decode cX3_set 50 = .ok (.iastore, 1) := by decide +kernel
theorem dX3_set_51 : decode cX3_set 51 = .ok (.iconst 1, 1) := by decide +kernel
theorem dX3_set_52 : decode cX3_set 52 = .ok (.ireturn, 1) := by decide +kernel
theorem dX3_mode_0 : decode cX3_mode 0 = .ok (.iload_n 1, 1) := by decide +kernel
theorem dX3_mode_1 : decode cX3_mode 1 = .ok (.invokestatic 36, 3) := by decide +kernel
theorem dX3_mode_4 : decode cX3_mode 4 = .ok (.ifCond .eq 13, 3) := by decide +kernel
theorem dX3_mode_7 : decode cX3_mode 7 = .ok (.iload_n 2, 1) := by decide +kernel
theorem dX3_mode_8 : decode cX3_mode 8 = .ok (.ifCond .lt 9, 3) := by decide +kernel
theorem dX3_mode_11 : decode cX3_mode 11 = .ok (.iload_n 2, 1) := by decide +kernel
theorem dX3_mode_12 : decode cX3_mode 12 = .ok (.bipush 63, 2) := by decide +kernel
theorem dX3_mode_14 : decode cX3_mode 14 = .ok (.if_icmp .le 5, 3) := by decide +kernel
theorem dX3_mode_17 : decode cX3_mode 17 = .ok (.iconst 0, 1) := by decide +kernel
theorem dX3_mode_18 : decode cX3_mode 18 = .ok (.ireturn, 1) := by decide +kernel
theorem dX3_mode_19 : decode cX3_mode 19 = .ok (.aload_n 0, 1) := by decide +kernel
theorem dX3_mode_20 : decode cX3_mode 20 = .ok (.getfield 11, 3) := by decide +kernel
theorem dX3_mode_23 : decode cX3_mode 23 = .ok (.iload_n 1, 1) := by decide +kernel
theorem dX3_mode_24 : decode cX3_mode 24 = .ok (.aaload, 1) := by decide +kernel
theorem dX3_mode_25 : decode cX3_mode 25 = .ok (.iload_n 2, 1) := by decide +kernel
theorem dX3_mode_26 : decode cX3_mode 26 = .ok (.putfield 49, 3) := by decide +kernel
theorem dX3_mode_29 : decode cX3_mode 29 = .ok (.iconst 1, 1) := by decide +kernel
theorem dX3_mode_30 : decode cX3_mode 30 = .ok (.ireturn, 1) := by decide +kernel
theorem dX3_exchange_0 : decode cX3_exchange 0 = .ok (.iload_n 1, 1) := by decide +kernel
theorem dX3_exchange_1 : decode cX3_exchange 1 = .ok (.invokestatic 53, 3) := by decide +kernel
theorem dX3_exchange_4 : decode cX3_exchange 4 = .ok (.ifCond .eq 12, 3) := by decide +kernel
theorem dX3_exchange_7 : decode cX3_exchange 7 = .ok (.iload_n 2, 1) := by decide +kernel
theorem dX3_exchange_8 : decode cX3_exchange 8 = .ok (.ifCond .lt 8, 3) := by decide +kernel
theorem dX3_exchange_11 : decode cX3_exchange 11 = .ok (.iload_n 2, 1) := by decide +kernel
theorem dX3_exchange_12 : decode cX3_exchange 12 = .ok (.iconst 2, 1) := by decide +kernel
theorem dX3_exchange_13 : decode cX3_exchange 13 = .ok (.if_icmp .lt 5, 3) := by decide +kernel
theorem dX3_exchange_16 : decode cX3_exchange 16 = .ok (.iconst 0, 1) := by decide +kernel
theorem dX3_exchange_17 : decode cX3_exchange 17 = .ok (.ireturn, 1) := by decide +kernel
theorem dX3_exchange_18 : decode cX3_exchange 18 = .ok (.aload_n 0, 1) := by decide +kernel
theorem dX3_exchange_19 : decode cX3_exchange 19 = .ok (.getfield 18, 3) := by decide +kernel
theorem dX3_exchange_22 : decode cX3_exchange 22 = .ok (.iload_n 1, 1) := by decide +kernel
theorem dX3_exchange_23 : decode cX3_exchange 23 = .ok (.aaload, 1) := by decide +kernel
theorem dX3_exchange_24 : decode cX3_exchange 24 = .ok (.astore_n 3, 1) := by decide +kernel
theorem dX3_exchange_25 : decode cX3_exchange 25 = .ok (.aload_n 3, 1) := by decide +kernel
theorem dX3_exchange_26 : decode cX3_exchange 26 = .ok (.aload_n 3, 1) := by decide +kernel
theorem dX3_exchange_27 : decode cX3_exchange 27 = .ok (.iload_n 2, 1) := by decide +kernel
theorem dX3_exchange_28 : decode cX3_exchange 28 = .ok (.invokevirtual 56, 3) := by decide +kernel
theorem dX3_exchange_31 : decode cX3_exchange 31 = .ok (.invokevirtual 60, 3) := by decide +kernel
theorem dX3_exchange_34 : decode cX3_exchange 34 = .ok (.ifCond .ne 15, 3) := by decide +kernel
theorem dX3_exchange_37 : decode cX3_exchange 37 = .ok (.aload_n 3, 1) := by decide +kernel
theorem dX3_exchange_38 : decode cX3_exchange 38 = .ok (.aload_n 3, 1) := by decide +kernel
theorem dX3_exchange_39 : decode cX3_exchange 39 = .ok (.iload_n 2, 1) := by decide +kernel
theorem dX3_exchange_40 : decode cX3_exchange 40 = .ok (.invokevirtual 63, 3) := by decide +kernel
theorem dX3_exchange_43 : decode cX3_exchange 43 = .ok (.invokevirtual 60, 3) := by decide +kernel
theorem dX3_exchange_46 : decode cX3_exchange 46 = .ok (.ifCond .eq 5, 3) := by decide +kernel
theorem dX3_exchange_49 : decode cX3_exchange 49 = .ok (.iconst 0, 1) := by decide +kernel
theorem dX3_exchange_50 : decode cX3_exchange 50 = .ok (.ireturn, 1) := by decide +kernel
theorem dX3_exchange_51 : decode cX3_exchange 51 = .ok (.aload_n 3, 1) := by decide +kernel
theorem dX3_exchange_52 : decode cX3_exchange 52 = .ok (.getfield 66, 3) := by decide +kernel
theorem dX3_exchange_55 : decode cX3_exchange 55 = .ok (.iload_n 2, 1) := by decide +kernel
theorem dX3_exchange_56 : decode cX3_exchange 56 = .ok (.aload_n 3, 1) := by decide +kernel
theorem dX3_exchange_57 : decode cX3_exchange 57 = .ok (.getfield 66, 3) := by decide +kernel
theorem dX3_exchange_60 : decode cX3_exchange 60 = .ok (.iload_n 2, 1) := by decide +kernel
theorem dX3_exchange_61 : decode cX3_exchange 61 = .ok (.baload, 1) := by decide +kernel
theorem dX3_exchange_62 : decode cX3_exchange 62 = .ok (.ifCond .ne 7, 3) := by decide +kernel
theorem dX3_exchange_65 : decode cX3_exchange 65 = .ok (.iconst 1, 1) := by decide +kernel
theorem dX3_exchange_66 : decode cX3_exchange 66 = .ok (.goto 4, 3) := by decide +kernel
theorem dX3_exchange_69 : decode cX3_exchange 69 = .ok (.iconst 0, 1) := by decide +kernel
theorem dX3_exchange_70 : decode cX3_exchange 70 = .ok (.bastore, 1) := by decide +kernel
theorem dX3_exchange_71 : decode cX3_exchange 71 = .ok (.iconst 1, 1) := by decide +kernel
theorem dX3_exchange_72 : decode cX3_exchange 72 = .ok (.ireturn, 1) := by decide +kernel
theorem dX3_car_0 : decode cX3_car 0 = .ok (.iload_n 1, 1) := by decide +kernel
theorem dX3_car_1 : decode cX3_car 1 = .ok (.invokestatic 36, 3) := by decide +kernel
theorem dX3_car_4 : decode cX3_car 4 = .ok (.ifCond .eq 12, 3) := by decide +kernel
theorem dX3_car_7 : decode cX3_car 7 = .ok (.iload_n 2, 1) := by decide +kernel
theorem dX3_car_8 : decode cX3_car 8 = .ok (.ifCond .lt 8, 3) := by decide +kernel
theorem dX3_car_11 : decode cX3_car 11 = .ok (.iload_n 2, 1) := by decide +kernel
theorem dX3_car_12 : decode cX3_car 12 = .ok (.iconst 1, 1) := by decide +kernel
theorem dX3_car_13 : decode cX3_car 13 = .ok (.if_icmp .le 5, 3) := by decide +kernel
theorem dX3_car_16 : decode cX3_car 16 = .ok (.iconst 0, 1) := by decide +kernel
theorem dX3_car_17 : decode cX3_car 17 = .ok (.ireturn, 1) := by decide +kernel
theorem dX3_car_18 : decode cX3_car 18 = .ok (.aload_n 0, 1) := by decide +kernel
theorem dX3_car_19 : decode cX3_car 19 = .ok (.getfield 11, 3) := by decide +kernel
theorem dX3_car_22 : decode cX3_car 22 = .ok (.iload_n 1, 1) := by decide +kernel
theorem dX3_car_23 : decode cX3_car 23 = .ok (.aaload, 1) := by decide +kernel
theorem dX3_car_24 : decode cX3_car 24 = .ok (.astore_n 3, 1) := by decide +kernel
theorem dX3_car_25 : decode cX3_car 25 = .ok (.iload_n 2, 1) := by decide +kernel
theorem dX3_car_26 : decode cX3_car 26 = .ok (.iconst 1, 1) := by decide +kernel
theorem dX3_car_27 : decode cX3_car 27 = .ok (.if_icmp .ne 7, 3) := by decide +kernel
theorem dX3_car_30 : decode cX3_car 30 = .ok (.iconst 1, 1) := by decide +kernel
theorem dX3_car_31 : decode cX3_car 31 = .ok (.goto 4, 3) := by decide +kernel
theorem dX3_car_34 : decode cX3_car 34 = .ok (.iconst 0, 1) := by decide +kernel
theorem dX3_car_35 : decode cX3_car 35 = .ok (.istore 4, 2) := by decide +kernel
theorem dX3_car_37 : decode cX3_car 37 = .ok (.aload_n 3, 1) := by decide +kernel
theorem dX3_car_38 : decode cX3_car 38 = .ok (.getfield 70, 3) := by decide +kernel
theorem dX3_car_41 : decode cX3_car 41 = .ok (.iload 4, 2) := by decide +kernel
theorem dX3_car_43 : decode cX3_car 43 = .ok (.if_icmp .ne 5, 3) := by decide +kernel
theorem dX3_car_46 : decode cX3_car 46 = .ok (.iconst 0, 1) := by decide +kernel
theorem dX3_car_47 : decode cX3_car 47 = .ok (.ireturn, 1) := by decide +kernel
theorem dX3_car_48 : decode cX3_car 48 = .ok (.aload_n 3, 1) := by decide +kernel
theorem dX3_car_49 : decode cX3_car 49 = .ok (.iload 4, 2) := by decide +kernel
theorem dX3_car_51 : decode cX3_car 51 = .ok (.putfield 70, 3) := by decide +kernel
theorem dX3_car_54 : decode cX3_car 54 = .ok (.iload 4, 2) := by decide +kernel
theorem dX3_car_56 : decode cX3_car 56 = .ok (.ifCond .eq 24, 3) := by decide +kernel
theorem dX3_car_59 : decode cX3_car 59 = .ok (.aload_n 3, 1) := by decide +kernel
theorem dX3_car_60 : decode cX3_car 60 = .ok (.iconst 2, 1) := by decide +kernel
theorem dX3_car_61 : decode cX3_car 61 = .ok (.invokevirtual 74, 3) := by decide +kernel
theorem dX3_car_64 : decode cX3_car 64 = .ok (.ifCond .eq 16, 3) := by decide +kernel
theorem dX3_car_67 : decode cX3_car 67 = .ok (.aload_n 0, 1) := by decide +kernel
theorem dX3_car_68 : decode cX3_car 68 = .ok (.iload_n 1, 1) := by decide +kernel
theorem dX3_car_69 : decode cX3_car 69 = .ok (.invokevirtual 77, 3) := by decide +kernel
theorem dX3_car_72 : decode cX3_car 72 = .ok (.ifCond .ne 8, 3) := by decide +kernel
theorem dX3_car_75 : decode cX3_car 75 = .ok (.aload_n 3, 1) := by decide +kernel
theorem dX3_car_76 : decode cX3_car 76 = .ok (.iconst 1, 1) := by decide +kernel
theorem dX3_car_77 : decode cX3_car 77 = .ok (.putfield 80, 3) := by decide +kernel
theorem dX3_car_80 : decode cX3_car 80 = .ok (.iconst 1, 1) := by decide +kernel
theorem dX3_car_81 : decode cX3_car 81 = .ok (.ireturn, 1) := by decide +kernel
theorem dX3_push_0 : decode cX3_push 0 = .ok (.iload_n 1, 1) := by decide +kernel
theorem dX3_push_1 : decode cX3_push 1 = .ok (.invokestatic 36, 3) := by decide +kernel
theorem dX3_push_4 : decode cX3_push 4 = .ok (.ifCond .eq 15, 3) := by decide +kernel
theorem dX3_push_7 : decode cX3_push 7 = .ok (.aload_n 0, 1) := by decide +kernel
theorem dX3_push_8 : decode cX3_push 8 = .ok (.getfield 11, 3) := by decide +kernel
theorem dX3_push_11 : decode cX3_push 11 = .ok (.iload_n 1, 1) := by decide +kernel
theorem dX3_push_12 : decode cX3_push 12 = .ok (.aaload, 1) := by decide +kernel
theorem dX3_push_13 : decode cX3_push 13 = .ok (.getfield 83, 3) := by decide +kernel
theorem dX3_push_16 : decode cX3_push 16 = .ok (.ifCond .eq 5, 3) := by decide +kernel
theorem dX3_push_19 : decode cX3_push 19 = .ok (.iconst 0, 1) := by decide +kernel
theorem dX3_push_20 : decode cX3_push 20 = .ok (.ireturn, 1) := by decide +kernel
theorem dX3_push_21 : decode cX3_push 21 = .ok (.aload_n 0, 1) := by decide +kernel
theorem dX3_push_22 : decode cX3_push 22 = .ok (.getfield 11, 3) := by decide +kernel
theorem dX3_push_25 : decode cX3_push 25 = .ok (.iload_n 1, 1) := by decide +kernel
theorem dX3_push_26 : decode cX3_push 26 = .ok (.aaload, 1) := by decide +kernel
theorem dX3_push_27 : decode cX3_push 27 = .ok (.iconst 1, 1) := by decide +kernel
theorem dX3_push_28 : decode cX3_push 28 = .ok (.putfield 83, 3) := by decide +kernel
theorem dX3_push_31 : decode cX3_push 31 = .ok (.iconst 1, 1) := by decide +kernel
theorem dX3_push_32 : decode cX3_push 32 = .ok (.ireturn, 1) := by decide +kernel
theorem dX3_stick_0 : decode cX3_stick 0 = .ok (.iload_n 1, 1) := by decide +kernel
theorem dX3_stick_1 : decode cX3_stick 1 = .ok (.invokestatic 36, 3) := by decide +kernel
theorem dX3_stick_4 : decode cX3_stick 4 = .ok (.ifCond .eq 13, 3) := by decide +kernel
theorem dX3_stick_7 : decode cX3_stick 7 = .ok (.iload_n 2, 1) := by decide +kernel
theorem dX3_stick_8 : decode cX3_stick 8 = .ok (.iconst (-1), 1) := by decide +kernel
theorem dX3_stick_9 : decode cX3_stick 9 = .ok (.if_icmp .lt 8, 3) := by decide +kernel
theorem dX3_stick_12 : decode cX3_stick 12 = .ok (.iload_n 2, 1) := by decide +kernel
theorem dX3_stick_13 : decode cX3_stick 13 = .ok (.iconst 2, 1) := by decide +kernel
theorem dX3_stick_14 : decode cX3_stick 14 = .ok (.if_icmp .le 5, 3) := by decide +kernel
theorem dX3_stick_17 : decode cX3_stick 17 = .ok (.iconst 0, 1) := by decide +kernel
theorem dX3_stick_18 : decode cX3_stick 18 = .ok (.ireturn, 1) := by decide +kernel
theorem dX3_stick_19 : decode cX3_stick 19 = .ok (.aload_n 0, 1) := by decide +kernel
theorem dX3_stick_20 : decode cX3_stick 20 = .ok (.getfield 11, 3) := by decide +kernel
theorem dX3_stick_23 : decode cX3_stick 23 = .ok (.iload_n 1, 1) := by decide +kernel
theorem dX3_stick_24 : decode cX3_stick 24 = .ok (.aaload, 1) := by decide +kernel
theorem dX3_stick_25 : decode cX3_stick 25 = .ok (.iload_n 2, 1) := by decide +kernel
theorem dX3_stick_26 : decode cX3_stick 26 = .ok (.putfield 86, 3) := by decide +kernel
theorem dX3_stick_29 : decode cX3_stick 29 = .ok (.iconst 1, 1) := by decide +kernel
theorem dX3_stick_30 : decode cX3_stick 30 = .ok (.ireturn, 1) := by decide +kernel
theorem dX3_run_0 : decode cX3_run 0 = .ok (.iload_n 1, 1) := by decide +kernel
theorem dX3_run_1 : decode cX3_run 1 = .ok (.ifCond .lt 10, 3) := by decide +kernel
theorem dX3_run_4 : decode cX3_run 4 = .ok (.iload_n 1, 1) := by decide +kernel
theorem dX3_run_5 : decode cX3_run 5 = .ok (.sipush 500, 3) := by decide +kernel
theorem dX3_run_8 : decode cX3_run 8 = .ok (.if_icmp .le 5, 3) := by decide +kernel
theorem dX3_run_11 : decode cX3_run 11 = .ok (.iconst (-1), 1) := by decide +kernel
theorem dX3_run_12 : decode cX3_run 12 = .ok (.ireturn, 1) := by decide +kernel
theorem dX3_run_13 : decode cX3_run 13 = .ok (.iconst 0, 1) := by decide +kernel
theorem dX3_run_14 : decode cX3_run 14 = .ok (.istore_n 2, 1) := by decide +kernel
theorem dX3_run_15 : decode cX3_run 15 = .ok (.iconst 0, 1) := by decide +kernel
theorem dX3_run_16 : decode cX3_run 16 = .ok (.istore_n 3, 1) := by decide +kernel
theorem dX3_run_17 : decode cX3_run 17 = .ok (.iload_n 3, 1) := by decide +kernel
theorem dX3_run_18 : decode cX3_run 18 = .ok (.iload_n 1, 1) := by decide +kernel
theorem dX3_run_19 : decode cX3_run 19 = .ok (.if_icmp .ge 16, 3) := by decide +kernel
theorem dX3_run_22 : decode cX3_run 22 = .ok (.iload_n 2, 1) := by decide +kernel
theorem dX3_run_23 : decode cX3_run 23 = .ok (.aload_n 0, 1) := by decide +kernel
theorem dX3_run_24 : decode cX3_run 24 = .ok (.invokevirtual 89, 3) := by decide +kernel
theorem dX3_run_27 : decode cX3_run 27 = .ok (.iadd, 1) := by decide +kernel
theorem dX3_run_28 : decode cX3_run 28 = .ok (.istore_n 2, 1) := by decide +kernel
theorem dX3_run_29 : decode cX3_run 29 = .ok (.iinc 3 1, 3) := by decide +kernel
theorem dX3_run_32 : decode cX3_run 32 = .ok (.goto (-15), 3) := by decide +kernel
theorem dX3_run_35 : decode cX3_run 35 = .ok (.iload_n 2, 1) := by decide +kernel
theorem dX3_run_36 : decode cX3_run 36 = .ok (.ireturn, 1) := by decide +kernel
theorem dX3_restart_0 : decode cX3_restart 0 = .ok (.aload_n 0, 1) := by decide +kernel
theorem dX3_restart_1 : decode cX3_restart 1 = .ok (.invokevirtual 93, 3) := by decide +kernel
theorem dX3_restart_4 : decode cX3_restart 4 = .ok (.ifCond .ne 5, 3) := by decide +kernel
theorem dX3_restart_7 : decode cX3_restart 7 = .ok (.iconst 0, 1) := by decide +kernel
theorem dX3_restart_8 : decode cX3_restart 8 = .ok (.ireturn, 1) := by decide +kernel
theorem dX3_restart_9 : decode cX3_restart 9 = .ok (.iconst 0, 1) := by decide +kernel
theorem dX3_restart_10 : decode cX3_restart 10 = .ok (.istore_n 1, 1) := by decide +kernel
theorem dX3_restart_11 : decode cX3_restart 11 = .ok (.iload_n 1, 1) := by decide +kernel
theorem dX3_restart_12 : decode cX3_restart 12 = .ok (.iconst 2, 1) := by decide +kernel
theorem dX3_restart_13 : decode cX3_restart 13 = .ok (.if_icmp .ge 28, 3) := by decide +kernel
theorem dX3_restart_16 : decode cX3_restart 16 = .ok (.aload_n 0, 1) := by decide +kernel
theorem dX3_restart_17 : decode cX3_restart 17 = .ok (.getfield 18, 3) := by decide +kernel
theorem dX3_restart_20 : decode cX3_restart 20 = .ok (.iload_n 1, 1) := by decide +kernel
theorem dX3_restart_21 : decode cX3_restart 21 = .ok (.aaload, 1) := by decide +kernel
theorem dX3_restart_22 : decode cX3_restart 22 = .ok (.invokevirtual 97, 3) := by decide +kernel
theorem dX3_restart_25 : decode cX3_restart 25 = .ok (.aload_n 0, 1) := by decide +kernel
theorem dX3_restart_26 : decode cX3_restart 26 = .ok (.getfield 18, 3) := by decide +kernel
theorem dX3_restart_29 : decode cX3_restart 29 = .ok (.iload_n 1, 1) := by decide +kernel
theorem dX3_restart_30 : decode cX3_restart 30 = .ok (.aaload, 1) := by decide +kernel
theorem dX3_restart_31 : decode cX3_restart 31 = .ok (.iconst (-1), 1) := by decide +kernel
theorem dX3_restart_32 : decode cX3_restart 32 = .ok (.putfield 100, 3) := by decide +kernel
theorem dX3_restart_35 : decode cX3_restart 35 = .ok (.iinc 1 1, 3) := by decide +kernel
theorem dX3_restart_38 : decode cX3_restart 38 = .ok (.goto (-27), 3) := by decide +kernel
theorem dX3_restart_41 : decode cX3_restart 41 = .ok (.aload_n 0, 1) := by decide +kernel
theorem dX3_restart_42 : decode cX3_restart 42 = .ok (.iconst 0, 1) := by decide +kernel
theorem dX3_restart_43 : decode cX3_restart 43 = .ok (.putfield 103, 3) := by decide +kernel
theorem dX3_restart_46 : decode cX3_restart 46 = .ok (.aload_n 0, 1) := by decide +kernel
theorem dX3_restart_47 : decode cX3_restart 47 = .ok (.iconst 0, 1) := by decide +kernel
theorem dX3_restart_48 : decode cX3_restart 48 = .ok (.putfield 106, 3) := by decide +kernel
theorem dX3_restart_51 : decode cX3_restart 51 = .ok (.aload_n 0, 1) := by decide +kernel
theorem dX3_restart_52 : decode cX3_restart 52 = .ok (.getfield 28, 3) := by decide +kernel
theorem dX3_restart_55 : decode cX3_restart 55 = .ok (.invokevirtual 109, 3) := by decide +kernel
theorem dX3_restart_58 : decode cX3_restart 58 = .ok (.iconst 1, 1) := by decide +kernel
theorem dX3_restart_59 : decode cX3_restart 59 = .ok (.ireturn, 1) := by decide +kernel
theorem dX3_of_0 : decode cX3_of 0 = .ok (.iload_n 1, 1) := by decide +kernel
theorem dX3_of_1 : decode cX3_of 1 = .ok (.invokestatic 36, 3) := by decide +kernel
theorem dX3_of_4 : decode cX3_of 4 = .ok (.ifCond .ne 5, 3) := by decide +kernel
theorem dX3_of_7 : decode cX3_of 7 = .ok (.iconst (-1), 1) := by decide +kernel
theorem dX3_of_8 : decode cX3_of 8 = .ok (.ireturn, 1) := by decide +kernel
theorem dX3_of_9 : decode cX3_of 9 = .ok (.aload_n 0, 1) := by decide +kernel
theorem dX3_of_10 : decode cX3_of 10 = .ok (.getfield 11, 3) := by decide +kernel
theorem dX3_of_13 : decode cX3_of 13 = .ok (.iload_n 1, 1) := by decide +kernel
theorem dX3_of_14 : decode cX3_of 14 = .ok (.aaload, 1) := by decide +kernel
theorem dX3_of_15 : decode cX3_of 15 = .ok (.astore_n 3, 1) := by decide +kernel
theorem dX3_of_16 : decode cX3_of 16 = .ok (.iload_n 2, 1) := by decide +kernel
theorem dX3_of_17 : decode cX3_of 17 = .ok (.tableswitch 141 0 8 #[51, 68, 93, 102, 107, 112, 117, 125, 133], 51) := by decide +kernel
theorem dX3_of_68 : decode cX3_of 68 = .ok (.aload_n 0, 1) := by decide +kernel
theorem dX3_of_69 : decode cX3_of 69 = .ok (.invokevirtual 93, 3) := by decide +kernel
theorem dX3_of_72 : decode cX3_of 72 = .ok (.ifCond .eq 7, 3) := by decide +kernel
theorem dX3_of_75 : decode cX3_of 75 = .ok (.iconst 3, 1) := by decide +kernel
theorem dX3_of_76 : decode cX3_of 76 = .ok (.goto 8, 3) := by decide +kernel
theorem dX3_of_79 : decode cX3_of 79 = .ok (.aload_n 0, 1) := by decide +kernel
theorem dX3_of_80 : decode cX3_of 80 = .ok (.iload_n 1, 1) := by decide +kernel
theorem dX3_of_81 : decode cX3_of 81 = .ok (.invokevirtual 112, 3) := by decide +kernel
theorem dX3_of_84 : decode cX3_of 84 = .ok (.ireturn, 1) := by decide +kernel
theorem dX3_of_85 : decode cX3_of 85 = .ok (.aload_n 0, 1) := by decide +kernel
theorem dX3_of_86 : decode cX3_of 86 = .ok (.iload_n 1, 1) := by decide +kernel
theorem dX3_of_87 : decode cX3_of 87 = .ok (.invokevirtual 77, 3) := by decide +kernel
theorem dX3_of_90 : decode cX3_of 90 = .ok (.ifCond .eq 18, 3) := by decide +kernel
theorem dX3_of_93 : decode cX3_of 93 = .ok (.aload_n 0, 1) := by decide +kernel
theorem dX3_of_94 : decode cX3_of 94 = .ok (.getfield 18, 3) := by decide +kernel
theorem dX3_of_97 : decode cX3_of 97 = .ok (.iload_n 1, 1) := by decide +kernel
theorem dX3_of_98 : decode cX3_of 98 = .ok (.invokestatic 115, 3) := by decide +kernel
theorem dX3_of_101 : decode cX3_of 101 = .ok (.aaload, 1) := by decide +kernel
theorem dX3_of_102 : decode cX3_of 102 = .ok (.invokevirtual 118, 3) := by decide +kernel
theorem dX3_of_105 : decode cX3_of 105 = .ok (.goto 4, 3) := by decide +kernel
theorem dX3_of_108 : decode cX3_of 108 = .ok (.iconst 0, 1) := by decide +kernel
theorem dX3_of_109 : decode cX3_of 109 = .ok (.ireturn, 1) := by decide +kernel
theorem dX3_of_110 : decode cX3_of 110 = .ok (.aload_n 0, 1) := by decide +kernel
theorem dX3_of_111 : decode cX3_of 111 = .ok (.iload_n 1, 1) := by decide +kernel
theorem dX3_of_112 : decode cX3_of 112 = .ok (.invokevirtual 121, 3) := by decide +kernel
theorem dX3_of_115 : decode cX3_of 115 = .ok (.invokestatic 124, 3) := by decide +kernel
theorem dX3_of_118 : decode cX3_of 118 = .ok (.ireturn, 1) := by decide +kernel
theorem dX3_of_119 : decode cX3_of 119 = .ok (.aload_n 3, 1) := by decide +kernel
theorem dX3_of_120 : decode cX3_of 120 = .ok (.getfield 128, 3) := by decide +kernel
theorem dX3_of_123 : decode cX3_of 123 = .ok (.ireturn, 1) := by decide +kernel
theorem dX3_of_124 : decode cX3_of 124 = .ok (.aload_n 3, 1) := by decide +kernel
theorem dX3_of_125 : decode cX3_of 125 = .ok (.getfield 131, 3) := by decide +kernel
theorem dX3_of_128 : decode cX3_of 128 = .ok (.ireturn, 1) := by decide +kernel
theorem dX3_of_129 : decode cX3_of 129 = .ok (.aload_n 3, 1) := by decide +kernel
theorem dX3_of_130 : decode cX3_of 130 = .ok (.getfield 134, 3) := by decide +kernel
theorem dX3_of_133 : decode cX3_of 133 = .ok (.ireturn, 1) := by decide +kernel
theorem dX3_of_134 : decode cX3_of 134 = .ok (.aload_n 3, 1) := by decide +kernel
theorem dX3_of_135 : decode cX3_of 135 = .ok (.getfield 70, 3) := by decide +kernel
theorem dX3_of_138 : decode cX3_of 138 = .ok (.invokestatic 124, 3) := by decide +kernel
theorem dX3_of_141 : decode cX3_of 141 = .ok (.ireturn, 1) := by decide +kernel
theorem dX3_of_142 : decode cX3_of 142 = .ok (.aload_n 3, 1) := by decide +kernel
theorem dX3_of_143 : decode cX3_of 143 = .ok (.getfield 83, 3) := by decide +kernel
theorem dX3_of_146 : decode cX3_of 146 = .ok (.invokestatic 124, 3) := by decide +kernel
theorem dX3_of_149 : decode cX3_of 149 = .ok (.ireturn, 1) := by decide +kernel
theorem dX3_of_150 : decode cX3_of 150 = .ok (.aload_n 3, 1) := by decide +kernel
theorem dX3_of_151 : decode cX3_of 151 = .ok (.getfield 80, 3) := by decide +kernel
theorem dX3_of_154 : decode cX3_of 154 = .ok (.invokestatic 124, 3) := by decide +kernel
theorem dX3_of_157 : decode cX3_of 157 = .ok (.ireturn, 1) := by decide +kernel
theorem dX3_of_158 : decode cX3_of 158 = .ok (.iconst (-1), 1) := by decide +kernel
theorem dX3_of_159 : decode cX3_of 159 = .ok (.ireturn, 1) := by decide +kernel
theorem dX3_ring_0 : decode cX3_ring 0 = .ok (.iload_n 1, 1) := by decide +kernel
theorem dX3_ring_1 : decode cX3_ring 1 = .ok (.invokestatic 53, 3) := by decide +kernel
theorem dX3_ring_4 : decode cX3_ring 4 = .ok (.ifCond .ne 5, 3) := by decide +kernel
theorem dX3_ring_7 : decode cX3_ring 7 = .ok (.iconst (-1), 1) := by decide +kernel
theorem dX3_ring_8 : decode cX3_ring 8 = .ok (.ireturn, 1) := by decide +kernel
theorem dX3_ring_9 : decode cX3_ring 9 = .ok (.aload_n 0, 1) := by decide +kernel
theorem dX3_ring_10 : decode cX3_ring 10 = .ok (.getfield 18, 3) := by decide +kernel
theorem dX3_ring_13 : decode cX3_ring 13 = .ok (.iload_n 1, 1) := by decide +kernel
theorem dX3_ring_14 : decode cX3_ring 14 = .ok (.aaload, 1) := by decide +kernel
theorem dX3_ring_15 : decode cX3_ring 15 = .ok (.astore_n 3, 1) := by decide +kernel
theorem dX3_ring_16 : decode cX3_ring 16 = .ok (.iload_n 2, 1) := by decide +kernel
theorem dX3_ring_17 : decode cX3_ring 17 = .ok (.tableswitch 82 0 6 #[43, 48, 53, 58, 63, 68, 77], 43) := by decide +kernel
theorem dX3_ring_60 : decode cX3_ring 60 = .ok (.aload_n 3, 1) := by decide +kernel
theorem dX3_ring_61 : decode cX3_ring 61 = .ok (.getfield 137, 3) := by decide +kernel
theorem dX3_ring_64 : decode cX3_ring 64 = .ok (.ireturn, 1) := by decide +kernel
theorem dX3_ring_65 : decode cX3_ring 65 = .ok (.aload_n 3, 1) := by decide +kernel
theorem dX3_ring_66 : decode cX3_ring 66 = .ok (.getfield 140, 3) := by decide +kernel
theorem dX3_ring_69 : decode cX3_ring 69 = .ok (.ireturn, 1) := by decide +kernel
theorem dX3_ring_70 : decode cX3_ring 70 = .ok (.aload_n 3, 1) := by decide +kernel
theorem dX3_ring_71 : decode cX3_ring 71 = .ok (.getfield 143, 3) := by decide +kernel
theorem dX3_ring_74 : decode cX3_ring 74 = .ok (.ireturn, 1) := by decide +kernel
theorem dX3_ring_75 : decode cX3_ring 75 = .ok (.aload_n 3, 1) := by decide +kernel
theorem dX3_ring_76 : decode cX3_ring 76 = .ok (.getfield 146, 3) := by decide +kernel
theorem dX3_ring_79 : decode cX3_ring 79 = .ok (.ireturn, 1) := by decide +kernel
theorem dX3_ring_80 : decode cX3_ring 80 = .ok (.aload_n 3, 1) := by decide +kernel
theorem dX3_ring_81 : decode cX3_ring 81 = .ok (.getfield 149, 3) := by decide +kernel
theorem dX3_ring_84 : decode cX3_ring 84 = .ok (.ireturn, 1) := by decide +kernel
theorem dX3_ring_85 : decode cX3_ring 85 = .ok (.aload_n 0, 1) := by decide +kernel
theorem dX3_ring_86 : decode cX3_ring 86 = .ok (.aload_n 3, 1) := by decide +kernel
theorem dX3_ring_87 : decode cX3_ring 87 = .ok (.invokevirtual 152, 3) := by decide +kernel
theorem dX3_ring_90 : decode cX3_ring 90 = .ok (.invokestatic 124, 3) := by decide +kernel
theorem dX3_ring_93 : decode cX3_ring 93 = .ok (.ireturn, 1) := by decide +kernel
theorem dX3_ring_94 : decode cX3_ring 94 = .ok (.aload_n 3, 1) := by decide +kernel
theorem dX3_ring_95 : decode cX3_ring 95 = .ok (.getfield 100, 3) := by decide +kernel
theorem dX3_ring_98 : decode cX3_ring 98 = .ok (.ireturn, 1) := by decide +kernel
theorem dX3_ring_99 : decode cX3_ring 99 = .ok (.iconst (-1), 1) := by decide +kernel
theorem dX3_ring_100 : decode cX3_ring 100 = .ok (.ireturn, 1) := by decide +kernel
theorem dX3_state_0 : decode cX3_state 0 = .ok (.iload_n 1, 1) := by decide +kernel
theorem dX3_state_1 : decode cX3_state 1 = .ok (.tableswitch 66 0 4 #[35, 40, 45, 53, 61], 35) := by decide +kernel
theorem dX3_state_36 : decode cX3_state 36 = .ok (.aload_n 0, 1) := by decide +kernel
theorem dX3_state_37 : decode cX3_state 37 = .ok (.getfield 156, 3) := by decide +kernel
theorem dX3_state_40 : decode cX3_state 40 = .ok (.ireturn, 1) := by decide +kernel
theorem dX3_state_41 : decode cX3_state 41 = .ok (.aload_n 0, 1) := by decide +kernel
theorem dX3_state_42 : decode cX3_state 42 = .ok (.getfield 106, 3) := by decide +kernel
theorem dX3_state_45 : decode cX3_state 45 = .ok (.ireturn, 1) := by decide +kernel
theorem dX3_state_46 : decode cX3_state 46 = .ok (.aload_n 0, 1) := by decide +kernel
theorem dX3_state_47 : decode cX3_state 47 = .ok (.getfield 103, 3) := by decide +kernel
theorem dX3_state_50 : decode cX3_state 50 = .ok (.invokestatic 124, 3) := by decide +kernel
theorem dX3_state_53 : decode cX3_state 53 = .ok (.ireturn, 1) := by decide +kernel
theorem dX3_state_54 : decode cX3_state 54 = .ok (.aload_n 0, 1) := by decide +kernel
theorem dX3_state_55 : decode cX3_state 55 = .ok (.getfield 28, 3) := by decide +kernel
theorem dX3_state_58 : decode cX3_state 58 = .ok (.getfield 159, 3) := by decide +kernel
theorem dX3_state_61 : decode cX3_state 61 = .ok (.ireturn, 1) := by decide +kernel
theorem dX3_state_62 : decode cX3_state 62 = .ok (.aload_n 0, 1) := by decide +kernel
theorem dX3_state_63 : decode cX3_state 63 = .ok (.getfield 162, 3) := by decide +kernel
theorem dX3_state_66 : decode cX3_state 66 = .ok (.ireturn, 1) := by decide +kernel
theorem dX3_state_67 : decode cX3_state 67 = .ok (.iconst (-1), 1) := by decide +kernel
theorem dX3_state_68 : decode cX3_state 68 = .ok (.ireturn, 1) := by decide +kernel
theorem dX3_check_0 : decode cX3_check 0 = .ok (.iconst 0, 1) := by decide +kernel
theorem dX3_check_1 : decode cX3_check 1 = .ok (.istore_n 1, 1) := by decide +kernel
theorem dX3_check_2 : decode cX3_check 2 = .ok (.iload_n 1, 1) := by decide +kernel
theorem dX3_check_3 : decode cX3_check 3 = .ok (.bipush 8, 2) := by decide +kernel
theorem dX3_check_5 : decode cX3_check 5 = .ok (.if_icmp .ge 20, 3) := by decide +kernel
theorem dX3_check_8 : decode cX3_check 8 = .ok (.aload_n 0, 1) := by decide +kernel
theorem dX3_check_9 : decode cX3_check 9 = .ok (.getfield 32, 3) := by decide +kernel
theorem dX3_check_12 : decode cX3_check 12 = .ok (.iload_n 1, 1) := by decide +kernel
theorem dX3_check_13 : decode cX3_check 13 = .ok (.aload_n 0, 1) := by decide +kernel
theorem dX3_check_14 : decode cX3_check 14 = .ok (.iload_n 1, 1) := by decide +kernel
theorem dX3_check_15 : decode cX3_check 15 = .ok (.invokevirtual 165, 3) := by decide +kernel
theorem dX3_check_18 : decode cX3_check 18 = .ok (.iastore, 1) := by decide +kernel
theorem dX3_check_19 : decode cX3_check 19 = .ok (.iinc 1 1, 3) := by decide +kernel
theorem dX3_check_22 : decode cX3_check 22 = .ok (.goto (-20), 3) := by decide +kernel
theorem dX3_check_25 : decode cX3_check 25 = .ok (.aload_n 0, 1) := by decide +kernel
theorem dX3_check_26 : decode cX3_check 26 = .ok (.getfield 32, 3) := by decide +kernel
theorem dX3_check_29 : decode cX3_check 29 = .ok (.invokestatic 168, 3) := by decide +kernel
theorem dX3_check_32 : decode cX3_check 32 = .ok (.ifCond .ne 7, 3) := by decide +kernel
theorem dX3_check_35 : decode cX3_check 35 = .ok (.iconst 1, 1) := by decide +kernel
theorem dX3_check_36 : decode cX3_check 36 = .ok (.goto 4, 3) := by decide +kernel
theorem dX3_check_39 : decode cX3_check 39 = .ok (.iconst 0, 1) := by decide +kernel
theorem dX3_check_40 : decode cX3_check 40 = .ok (.invokestatic 124, 3) := by decide +kernel
theorem dX3_check_43 : decode cX3_check 43 = .ok (.ireturn, 1) := by decide +kernel
theorem dX3_tick_0 : decode cX3_tick 0 = .ok (.aload_n 0, 1) := by decide +kernel
theorem dX3_tick_1 : decode cX3_tick 1 = .ok (.dup, 1) := by decide +kernel
theorem dX3_tick_2 : decode cX3_tick 2 = .ok (.getfield 156, 3) := by decide +kernel
theorem dX3_tick_5 : decode cX3_tick 5 = .ok (.iconst 1, 1) := by decide +kernel
theorem dX3_tick_6 : decode cX3_tick 6 = .ok (.iadd, 1) := by decide +kernel
theorem dX3_tick_7 : decode cX3_tick 7 = .ok (.putfield 156, 3) := by decide +kernel
theorem dX3_tick_10 : decode cX3_tick 10 = .ok (.aload_n 0, 1) := by decide +kernel
theorem dX3_tick_11 : decode cX3_tick 11 = .ok (.invokevirtual 93, 3) := by decide +kernel
theorem dX3_tick_14 : decode cX3_tick 14 = .ok (.ifCond .eq 5, 3) := by decide +kernel
theorem dX3_tick_17 : decode cX3_tick 17 = .ok (.iconst 0, 1) := by decide +kernel
theorem dX3_tick_18 : decode cX3_tick 18 = .ok (.ireturn, 1) := by decide +kernel
theorem dX3_tick_19 : decode cX3_tick 19 = .ok (.aload_n 0, 1) := by decide +kernel
theorem dX3_tick_20 : decode cX3_tick 20 = .ok (.invokevirtual 172, 3) := by decide +kernel
theorem dX3_tick_23 : decode cX3_tick 23 = .ok (.aload_n 0, 1) := by decide +kernel
theorem dX3_tick_24 : decode cX3_tick 24 = .ok (.invokevirtual 175, 3) := by decide +kernel
theorem dX3_tick_27 : decode cX3_tick 27 = .ok (.iconst 0, 1) := by decide +kernel
theorem dX3_tick_28 : decode cX3_tick 28 = .ok (.istore_n 1, 1) := by decide +kernel
theorem dX3_tick_29 : decode cX3_tick 29 = .ok (.iload_n 1, 1) := by decide +kernel
theorem dX3_tick_30 : decode cX3_tick 30 = .ok (.iconst 2, 1) := by decide +kernel
theorem dX3_tick_31 : decode cX3_tick 31 = .ok (.if_icmp .ge 19, 3) := by decide +kernel
theorem dX3_tick_34 : decode cX3_tick 34 = .ok (.aload_n 0, 1) := by decide +kernel
theorem dX3_tick_35 : decode cX3_tick 35 = .ok (.aload_n 0, 1) := by decide +kernel
theorem dX3_tick_36 : decode cX3_tick 36 = .ok (.getfield 18, 3) := by decide +kernel
theorem dX3_tick_39 : decode cX3_tick 39 = .ok (.iload_n 1, 1) := by decide +kernel
theorem dX3_tick_40 : decode cX3_tick 40 = .ok (.aaload, 1) := by decide +kernel
theorem dX3_tick_41 : decode cX3_tick 41 = .ok (.invokevirtual 178, 3) := by decide +kernel
theorem dX3_tick_44 : decode cX3_tick 44 = .ok (.iinc 1 1, 3) := by decide +kernel
theorem dX3_tick_47 : decode cX3_tick 47 = .ok (.goto (-18), 3) := by decide +kernel
theorem dX3_tick_50 : decode cX3_tick 50 = .ok (.aload_n 0, 1) := by decide +kernel
theorem dX3_tick_51 : decode cX3_tick 51 = .ok (.invokevirtual 182, 3) := by decide +kernel
theorem dX3_tick_54 : decode cX3_tick 54 = .ok (.aload_n 0, 1) := by decide +kernel
theorem dX3_tick_55 : decode cX3_tick 55 = .ok (.getfield 103, 3) := by decide +kernel
theorem dX3_tick_58 : decode cX3_tick 58 = .ok (.ifCond .eq 31, 3) := by decide +kernel
theorem dX3_tick_61 : decode cX3_tick 61 = .ok (.aload_n 0, 1) := by decide +kernel
theorem dX3_tick_62 : decode cX3_tick 62 = .ok (.getfield 18, 3) := by decide +kernel
theorem dX3_tick_65 : decode cX3_tick 65 = .ok (.iconst 0, 1) := by decide +kernel
theorem dX3_tick_66 : decode cX3_tick 66 = .ok (.aaload, 1) := by decide +kernel
theorem dX3_tick_67 : decode cX3_tick 67 = .ok (.getfield 140, 3) := by decide +kernel
theorem dX3_tick_70 : decode cX3_tick 70 = .ok (.ifCond .ne 19, 3) := by decide +kernel
theorem dX3_tick_73 : decode cX3_tick 73 = .ok (.aload_n 0, 1) := by decide +kernel
theorem dX3_tick_74 : decode cX3_tick 74 = .ok (.getfield 18, 3) := by decide +kernel
theorem dX3_tick_77 : decode cX3_tick 77 = .ok (.iconst 1, 1) := by decide +kernel
theorem dX3_tick_78 : decode cX3_tick 78 = .ok (.aaload, 1) := by decide +kernel
theorem dX3_tick_79 : decode cX3_tick 79 = .ok (.getfield 140, 3) := by decide +kernel
theorem dX3_tick_82 : decode cX3_tick 82 = .ok (.ifCond .ne 7, 3) := by decide +kernel
theorem dX3_tick_85 : decode cX3_tick 85 = .ok (.aload_n 0, 1) := by decide +kernel
theorem dX3_tick_86 : decode cX3_tick 86 = .ok (.invokevirtual 185, 3) := by decide +kernel
theorem dX3_tick_89 : decode cX3_tick 89 = .ok (.aload_n 0, 1) := by decide +kernel
theorem dX3_tick_90 : decode cX3_tick 90 = .ok (.invokevirtual 188, 3) := by decide +kernel
theorem dX3_tick_93 : decode cX3_tick 93 = .ok (.istore_n 1, 1) := by decide +kernel
theorem dX3_tick_94 : decode cX3_tick 94 = .ok (.aload_n 0, 1) := by decide +kernel
theorem dX3_tick_95 : decode cX3_tick 95 = .ok (.invokevirtual 191, 3) := by decide +kernel
theorem dX3_tick_98 : decode cX3_tick 98 = .ok (.iload_n 1, 1) := by decide +kernel
theorem dX3_tick_99 : decode cX3_tick 99 = .ok (.ireturn, 1) := by decide +kernel
theorem dX3_countWaits_0 : decode cX3_countWaits 0 = .ok (.iconst 0, 1) := by decide +kernel
theorem dX3_countWaits_1 : decode cX3_countWaits 1 = .ok (.istore_n 1, 1) := by decide +kernel
theorem dX3_countWaits_2 : decode cX3_countWaits 2 = .ok (.iload_n 1, 1) := by decide +kernel
theorem dX3_countWaits_3 : decode cX3_countWaits 3 = .ok (.bipush 8, 2) := by decide +kernel
theorem dX3_countWaits_5 : decode cX3_countWaits 5 = .ok (.if_icmp .ge 23, 3) := by decide +kernel
theorem dX3_countWaits_8 : decode cX3_countWaits 8 = .ok (.aload_n 0, 1) := by decide +kernel
theorem dX3_countWaits_9 : decode cX3_countWaits 9 = .ok (.getfield 11, 3) := by decide +kernel
theorem dX3_countWaits_12 : decode cX3_countWaits 12 = .ok (.iload_n 1, 1) := by decide +kernel
theorem dX3_countWaits_13 : decode cX3_countWaits 13 = .ok (.aaload, 1) := by decide +kernel
theorem dX3_countWaits_14 : decode cX3_countWaits 14 = .ok (.aload_n 0, 1) := by decide +kernel
theorem dX3_countWaits_15 : decode cX3_countWaits 15 = .ok (.iload_n 1, 1) := by decide +kernel
theorem dX3_countWaits_16 : decode cX3_countWaits 16 = .ok (.invokevirtual 121, 3) := by decide +kernel
theorem dX3_countWaits_19 : decode cX3_countWaits 19 = .ok (.invokevirtual 194, 3) := by decide +kernel
theorem dX3_countWaits_22 : decode cX3_countWaits 22 = .ok (.iinc 1 1, 3) := by decide +kernel
theorem dX3_countWaits_25 : decode cX3_countWaits 25 = .ok (.goto (-23), 3) := by decide +kernel
theorem dX3_countWaits_28 : decode cX3_countWaits 28 = .ok (.return_, 1) := by decide +kernel
theorem dX3_advanceRings_0 : decode cX3_advanceRings 0 = .ok (.aload_n 0, 1) := by decide +kernel
theorem dX3_advanceRings_1 : decode cX3_advanceRings 1 = .ok (.iconst 0, 1) := by decide +kernel
theorem dX3_advanceRings_2 : decode cX3_advanceRings 2 = .ok (.invokevirtual 198, 3) := by decide +kernel
theorem dX3_advanceRings_5 : decode cX3_advanceRings 5 = .ok (.ifCond .ne 11, 3) := by decide +kernel
theorem dX3_advanceRings_8 : decode cX3_advanceRings 8 = .ok (.aload_n 0, 1) := by decide +kernel
theorem dX3_advanceRings_9 : decode cX3_advanceRings 9 = .ok (.iconst 1, 1) := by decide +kernel
theorem dX3_advanceRings_10 : decode cX3_advanceRings 10 = .ok (.invokevirtual 198, 3) := by decide +kernel
theorem dX3_advanceRings_13 : decode cX3_advanceRings 13 = .ok (.ifCond .eq 7, 3) := by decide +kernel
theorem dX3_advanceRings_16 : decode cX3_advanceRings 16 = .ok (.iconst 1, 1) := by decide +kernel
theorem dX3_advanceRings_17 : decode cX3_advanceRings 17 = .ok (.goto 4, 3) := by decide +kernel
theorem dX3_advanceRings_20 : decode cX3_advanceRings 20 = .ok (.iconst 0, 1) := by decide +kernel
theorem dX3_advanceRings_21 : decode cX3_advanceRings 21 = .ok (.istore_n 1, 1) := by decide +kernel
theorem dX3_advanceRings_22 : decode cX3_advanceRings 22 = .ok (.iconst 0, 1) := by decide +kernel
theorem dX3_advanceRings_23 : decode cX3_advanceRings 23 = .ok (.istore_n 2, 1) := by decide +kernel
theorem dX3_advanceRings_24 : decode cX3_advanceRings 24 = .ok (.iload_n 2, 1) := by decide +kernel
theorem dX3_advanceRings_25 : decode cX3_advanceRings 25 = .ok (.iconst 2, 1) := by decide +kernel
theorem dX3_advanceRings_26 : decode cX3_advanceRings 26 = .ok (.if_icmp .ge 61, 3) := by decide +kernel
theorem dX3_advanceRings_29 : decode cX3_advanceRings 29 = .ok (.aload_n 0, 1) := by decide +kernel
theorem dX3_advanceRings_30 : decode cX3_advanceRings 30 = .ok (.getfield 18, 3) := by decide +kernel
theorem dX3_advanceRings_33 : decode cX3_advanceRings 33 = .ok (.iload_n 2, 1) := by decide +kernel
theorem dX3_advanceRings_34 : decode cX3_advanceRings 34 = .ok (.aaload, 1) := by decide +kernel
theorem dX3_advanceRings_35 : decode cX3_advanceRings 35 = .ok (.astore_n 3, 1) := by decide +kernel
theorem dX3_advanceRings_36 : decode cX3_advanceRings 36 = .ok (.aload_n 3, 1) := by decide +kernel
theorem dX3_advanceRings_37 : decode cX3_advanceRings 37 = .ok (.getfield 140, 3) := by decide +kernel
theorem dX3_advanceRings_40 : decode cX3_advanceRings 40 = .ok (.iconst 1, 1) := by decide +kernel
theorem dX3_advanceRings_41 : decode cX3_advanceRings 41 = .ok (.if_icmp .ne 20, 3) := by decide +kernel
theorem dX3_advanceRings_44 : decode cX3_advanceRings 44 = .ok (.aload_n 3, 1) := by decide +kernel
theorem dX3_advanceRings_45 : decode cX3_advanceRings 45 = .ok (.aload_n 0, 1) := by decide +kernel
theorem dX3_advanceRings_46 : decode cX3_advanceRings 46 = .ok (.getfield 11, 3) := by decide +kernel
theorem dX3_advanceRings_49 : decode cX3_advanceRings 49 = .ok (.aload_n 3, 1) := by decide +kernel
theorem dX3_advanceRings_50 : decode cX3_advanceRings 50 = .ok (.getfield 137, 3) := by decide +kernel
theorem dX3_advanceRings_53 : decode cX3_advanceRings 53 = .ok (.aaload, 1) := by decide +kernel
theorem dX3_advanceRings_54 : decode cX3_advanceRings 54 = .ok (.iload_n 1, 1) := by decide +kernel
theorem dX3_advanceRings_55 : decode cX3_advanceRings 55 = .ok (.invokevirtual 201, 3) := by decide +kernel
theorem dX3_advanceRings_58 : decode cX3_advanceRings 58 = .ok (.goto 23, 3) := by decide +kernel
theorem dX3_advanceRings_61 : decode cX3_advanceRings 61 = .ok (.aload_n 3, 1) := by decide +kernel
theorem dX3_advanceRings_62 : decode cX3_advanceRings 62 = .ok (.getfield 140, 3) := by decide +kernel
theorem dX3_advanceRings_65 : decode cX3_advanceRings 65 = .ok (.ifCond .eq 16, 3) := by decide +kernel
theorem dX3_advanceRings_68 : decode cX3_advanceRings 68 = .ok (.aload_n 3, 1) := by decide +kernel
theorem dX3_advanceRings_69 : decode cX3_advanceRings 69 = .ok (.aload_n 0, 1) := by decide +kernel
theorem dX3_advanceRings_70 : decode cX3_advanceRings 70 = .ok (.getfield 11, 3) := by decide +kernel
theorem dX3_advanceRings_73 : decode cX3_advanceRings 73 = .ok (.aload_n 3, 1) := by decide +kernel
theorem dX3_advanceRings_74 : decode cX3_advanceRings 74 = .ok (.getfield 137, 3) := by decide +kernel
theorem dX3_advanceRings_77 : decode cX3_advanceRings 77 = .ok (.aaload, 1) := by decide +kernel
theorem dX3_advanceRings_78 : decode cX3_advanceRings 78 = .ok (.invokevirtual 205, 3) := by decide +kernel
theorem dX3_advanceRings_81 : decode cX3_advanceRings 81 = .ok (.iinc 2 1, 3) := by decide +kernel
theorem dX3_advanceRings_84 : decode cX3_advanceRings 84 = .ok (.goto (-60), 3) := by decide +kernel
theorem dX3_advanceRings_87 : decode cX3_advanceRings 87 = .ok (.return_, 1) := by decide +kernel
theorem dX3_goOnWithinSide_0 : decode cX3_goOnWithinSide 0 = .ok (.aload_n 1, 1) := by decide +kernel
theorem dX3_goOnWithinSide_1 : decode cX3_goOnWithinSide 1 = .ok (.aload_n 0, 1) := by decide +kernel
theorem dX3_goOnWithinSide_2 : decode cX3_goOnWithinSide 2 = .ok (.getfield 106, 3) := by decide +kernel
theorem dX3_goOnWithinSide_5 : decode cX3_goOnWithinSide 5 = .ok (.invokevirtual 63, 3) := by decide +kernel
theorem dX3_goOnWithinSide_8 : decode cX3_goOnWithinSide 8 = .ok (.istore_n 2, 1) := by decide +kernel
theorem dX3_goOnWithinSide_9 : decode cX3_goOnWithinSide 9 = .ok (.aload_n 0, 1) := by decide +kernel
theorem dX3_goOnWithinSide_10 : decode cX3_goOnWithinSide 10 = .ok (.aload_n 1, 1) := by decide +kernel
theorem dX3_goOnWithinSide_11 : decode cX3_goOnWithinSide 11 = .ok (.invokevirtual 152, 3) := by decide +kernel
theorem dX3_goOnWithinSide_14 : decode cX3_goOnWithinSide 14 = .ok (.ifCond .eq 31, 3) := by decide +kernel
theorem dX3_goOnWithinSide_17 : decode cX3_goOnWithinSide 17 = .ok (.aload_n 1, 1) := by decide +kernel
theorem dX3_goOnWithinSide_18 : decode cX3_goOnWithinSide 18 = .ok (.getfield 137, 3) := by decide +kernel
theorem dX3_goOnWithinSide_21 : decode cX3_goOnWithinSide 21 = .ok (.aload_n 1, 1) := by decide +kernel
theorem dX3_goOnWithinSide_22 : decode cX3_goOnWithinSide 22 = .ok (.aload_n 0, 1) := by decide +kernel
theorem dX3_goOnWithinSide_23 : decode cX3_goOnWithinSide 23 = .ok (.getfield 106, 3) := by decide +kernel
theorem dX3_goOnWithinSide_26 : decode cX3_goOnWithinSide 26 = .ok (.invokevirtual 56, 3) := by decide +kernel
theorem dX3_goOnWithinSide_29 : decode cX3_goOnWithinSide 29 = .ok (.if_icmp .ne 16, 3) := by decide +kernel
theorem dX3_goOnWithinSide_32 : decode cX3_goOnWithinSide 32 = .ok (.aload_n 0, 1) := by decide +kernel
theorem dX3_goOnWithinSide_33 : decode cX3_goOnWithinSide 33 = .ok (.iload_n 2, 1) := by decide +kernel
theorem dX3_goOnWithinSide_34 : decode cX3_goOnWithinSide 34 = .ok (.invokevirtual 121, 3) := by decide +kernel
theorem dX3_goOnWithinSide_37 : decode cX3_goOnWithinSide 37 = .ok (.ifCond .eq 8, 3) := by decide +kernel
theorem dX3_goOnWithinSide_40 : decode cX3_goOnWithinSide 40 = .ok (.aload_n 1, 1) := by decide +kernel
theorem dX3_goOnWithinSide_41 : decode cX3_goOnWithinSide 41 = .ok (.iload_n 2, 1) := by decide +kernel
theorem dX3_goOnWithinSide_42 : decode cX3_goOnWithinSide 42 = .ok (.invokevirtual 209, 3) := by decide +kernel
theorem dX3_goOnWithinSide_45 : decode cX3_goOnWithinSide 45 = .ok (.aload_n 1, 1) := by decide +kernel
theorem dX3_goOnWithinSide_46 : decode cX3_goOnWithinSide 46 = .ok (.invokestatic 212, 3) := by decide +kernel
theorem dX3_goOnWithinSide_49 : decode cX3_goOnWithinSide 49 = .ok (.ifCond .eq 23, 3) := by decide +kernel
theorem dX3_goOnWithinSide_52 : decode cX3_goOnWithinSide 52 = .ok (.aload_n 0, 1) := by decide +kernel
theorem dX3_goOnWithinSide_53 : decode cX3_goOnWithinSide 53 = .ok (.getfield 103, 3) := by decide +kernel
theorem dX3_goOnWithinSide_56 : decode cX3_goOnWithinSide 56 = .ok (.ifCond .ne 16, 3) := by decide +kernel
theorem dX3_goOnWithinSide_59 : decode cX3_goOnWithinSide 59 = .ok (.aload_n 1, 1) := by decide +kernel
theorem dX3_goOnWithinSide_60 : decode cX3_goOnWithinSide 60 = .ok (.aload_n 0, 1) := by decide +kernel
theorem dX3_goOnWithinSide_61 : decode cX3_goOnWithinSide 61 = .ok (.aload_n 1, 1) := by decide +kernel
theorem dX3_goOnWithinSide_62 : decode cX3_goOnWithinSide 62 = .ok (.aload_n 0, 1) := by decide +kernel
theorem dX3_goOnWithinSide_63 : decode cX3_goOnWithinSide 63 = .ok (.getfield 106, 3) := by decide +kernel
theorem dX3_goOnWithinSide_66 : decode cX3_goOnWithinSide 66 = .ok (.invokevirtual 215, 3) := by decide +kernel
theorem dX3_goOnWithinSide_69 : decode cX3_goOnWithinSide 69 = .ok (.putfield 100, 3) := by decide +kernel
theorem dX3_goOnWithinSide_72 : decode cX3_goOnWithinSide 72 = .ok (.return_, 1) := by decide +kernel
theorem dX3_leaveSideOrTurnBack_0 : decode cX3_leaveSideOrTurnBack 0 = .ok (.aload_n 0, 1) := by decide +kernel
theorem dX3_leaveSideOrTurnBack_1 : decode cX3_leaveSideOrTurnBack 1 = .ok (.getfield 103, 3) := by decide +kernel
theorem dX3_leaveSideOrTurnBack_4 : decode cX3_leaveSideOrTurnBack 4 = .ok (.ifCond .eq 4, 3) := by decide +kernel
theorem dX3_leaveSideOrTurnBack_7 : decode cX3_leaveSideOrTurnBack 7 = .ok (.return_, 1) := by decide +kernel
theorem dX3_leaveSideOrTurnBack_8 : decode cX3_leaveSideOrTurnBack 8 = .ok (.aload_n 0, 1) := by decide +kernel
theorem dX3_leaveSideOrTurnBack_9 : decode cX3_leaveSideOrTurnBack 9 = .ok (.iconst 1, 1) := by decide +kernel
theorem dX3_leaveSideOrTurnBack_10 : decode cX3_leaveSideOrTurnBack 10 = .ok (.aload_n 0, 1) := by decide +kernel
theorem dX3_leaveSideOrTurnBack_11 : decode cX3_leaveSideOrTurnBack 11 = .ok (.getfield 106, 3) := by decide +kernel
theorem dX3_leaveSideOrTurnBack_14 : decode cX3_leaveSideOrTurnBack 14 = .ok (.isub, 1) := by decide +kernel
theorem dX3_leaveSideOrTurnBack_15 : decode cX3_leaveSideOrTurnBack 15 = .ok (.invokevirtual 198, 3) := by decide +kernel
theorem dX3_leaveSideOrTurnBack_18 : decode cX3_leaveSideOrTurnBack 18 = .ok (.ifCond .ne 29, 3) := by decide +kernel
theorem dX3_leaveSideOrTurnBack_21 : decode cX3_leaveSideOrTurnBack 21 = .ok (.iconst 0, 1) := by decide +kernel
theorem dX3_leaveSideOrTurnBack_22 : decode cX3_leaveSideOrTurnBack 22 = .ok (.istore_n 1, 1) := by decide +kernel
theorem dX3_leaveSideOrTurnBack_23 : decode cX3_leaveSideOrTurnBack 23 = .ok (.iload_n 1, 1) := by decide +kernel
theorem dX3_leaveSideOrTurnBack_24 : decode cX3_leaveSideOrTurnBack 24 = .ok (.iconst 2, 1) := by decide +kernel
theorem dX3_leaveSideOrTurnBack_25 : decode cX3_leaveSideOrTurnBack 25 = .ok (.if_icmp .ge 19, 3) := by decide +kernel
theorem dX3_leaveSideOrTurnBack_28 : decode cX3_leaveSideOrTurnBack 28 = .ok (.aload_n 0, 1) := by decide +kernel
theorem dX3_leaveSideOrTurnBack_29 : decode cX3_leaveSideOrTurnBack 29 = .ok (.aload_n 0, 1) := by decide +kernel
theorem dX3_leaveSideOrTurnBack_30 : decode cX3_leaveSideOrTurnBack 30 = .ok (.getfield 18, 3) := by decide +kernel
theorem dX3_leaveSideOrTurnBack_33 : decode cX3_leaveSideOrTurnBack 33 = .ok (.iload_n 1, 1) := by decide +kernel
theorem dX3_leaveSideOrTurnBack_34 : decode cX3_leaveSideOrTurnBack 34 = .ok (.aaload, 1) := by decide +kernel
theorem dX3_leaveSideOrTurnBack_35 : decode cX3_leaveSideOrTurnBack 35 = .ok (.invokevirtual 219, 3) := by decide +kernel
theorem dX3_leaveSideOrTurnBack_38 : decode cX3_leaveSideOrTurnBack 38 = .ok (.iinc 1 1, 3) := by decide +kernel
theorem dX3_leaveSideOrTurnBack_41 : decode cX3_leaveSideOrTurnBack 41 = .ok (.goto (-18), 3) := by decide +kernel
theorem dX3_leaveSideOrTurnBack_44 : decode cX3_leaveSideOrTurnBack 44 = .ok (.goto 33, 3) := by decide +kernel
theorem dX3_leaveSideOrTurnBack_47 : decode cX3_leaveSideOrTurnBack 47 = .ok (.aload_n 0, 1) := by decide +kernel
theorem dX3_leaveSideOrTurnBack_48 : decode cX3_leaveSideOrTurnBack 48 = .ok (.aload_n 0, 1) := by decide +kernel
theorem dX3_leaveSideOrTurnBack_49 : decode cX3_leaveSideOrTurnBack 49 = .ok (.getfield 18, 3) := by decide +kernel
theorem dX3_leaveSideOrTurnBack_52 : decode cX3_leaveSideOrTurnBack 52 = .ok (.iconst 0, 1) := by decide +kernel
theorem dX3_leaveSideOrTurnBack_53 : decode cX3_leaveSideOrTurnBack 53 = .ok (.aaload, 1) := by decide +kernel
theorem dX3_leaveSideOrTurnBack_54 : decode cX3_leaveSideOrTurnBack 54 = .ok (.invokevirtual 222, 3) := by decide +kernel
theorem dX3_leaveSideOrTurnBack_57 : decode cX3_leaveSideOrTurnBack 57 = .ok (.ifCond .eq 20, 3) := by decide +kernel
theorem dX3_leaveSideOrTurnBack_60 : decode cX3_leaveSideOrTurnBack 60 = .ok (.aload_n 0, 1) := by decide +kernel
theorem dX3_leaveSideOrTurnBack_61 : decode cX3_leaveSideOrTurnBack 61 = .ok (.aload_n 0, 1) := by decide +kernel
theorem dX3_leaveSideOrTurnBack_62 : decode cX3_leaveSideOrTurnBack 62 = .ok (.getfield 18, 3) := by decide +kernel
theorem dX3_leaveSideOrTurnBack_65 : decode cX3_leaveSideOrTurnBack 65 = .ok (.iconst 1, 1) := by decide +kernel
theorem dX3_leaveSideOrTurnBack_66 : decode cX3_leaveSideOrTurnBack 66 = .ok (.aaload, 1) := by decide +kernel
theorem dX3_leaveSideOrTurnBack_67 : decode cX3_leaveSideOrTurnBack 67 = .ok (.invokevirtual 222, 3) := by decide +kernel
theorem dX3_leaveSideOrTurnBack_70 : decode cX3_leaveSideOrTurnBack 70 = .ok (.ifCond .eq 7, 3) := by decide +kernel
theorem dX3_leaveSideOrTurnBack_73 : decode cX3_leaveSideOrTurnBack 73 = .ok (.aload_n 0, 1) := by decide +kernel
theorem dX3_leaveSideOrTurnBack_74 : decode cX3_leaveSideOrTurnBack 74 = .ok (.invokevirtual 225, 3) := by decide +kernel
theorem dX3_leaveSideOrTurnBack_77 : decode cX3_leaveSideOrTurnBack 77 = .ok (.return_, 1) := by decide +kernel
theorem dX3_turnBackToFirst_0 : decode cX3_turnBackToFirst 0 = .ok (.aload_n 1, 1) := by decide +kernel
theorem dX3_turnBackToFirst_1 : decode cX3_turnBackToFirst 1 = .ok (.aload_n 0, 1) := by decide +kernel
theorem dX3_turnBackToFirst_2 : decode cX3_turnBackToFirst 2 = .ok (.getfield 106, 3) := by decide +kernel
theorem dX3_turnBackToFirst_5 : decode cX3_turnBackToFirst 5 = .ok (.invokevirtual 56, 3) := by decide +kernel
theorem dX3_turnBackToFirst_8 : decode cX3_turnBackToFirst 8 = .ok (.istore_n 2, 1) := by decide +kernel
theorem dX3_turnBackToFirst_9 : decode cX3_turnBackToFirst 9 = .ok (.aload_n 0, 1) := by decide +kernel
theorem dX3_turnBackToFirst_10 : decode cX3_turnBackToFirst 10 = .ok (.aload_n 1, 1) := by decide +kernel
theorem dX3_turnBackToFirst_11 : decode cX3_turnBackToFirst 11 = .ok (.invokevirtual 152, 3) := by decide +kernel
theorem dX3_turnBackToFirst_14 : decode cX3_turnBackToFirst 14 = .ok (.ifCond .eq 31, 3) := by decide +kernel
theorem dX3_turnBackToFirst_17 : decode cX3_turnBackToFirst 17 = .ok (.aload_n 1, 1) := by decide +kernel
theorem dX3_turnBackToFirst_18 : decode cX3_turnBackToFirst 18 = .ok (.getfield 137, 3) := by decide +kernel
theorem dX3_turnBackToFirst_21 : decode cX3_turnBackToFirst 21 = .ok (.aload_n 1, 1) := by decide +kernel
theorem dX3_turnBackToFirst_22 : decode cX3_turnBackToFirst 22 = .ok (.aload_n 0, 1) := by decide +kernel
theorem dX3_turnBackToFirst_23 : decode cX3_turnBackToFirst 23 = .ok (.getfield 106, 3) := by decide +kernel
theorem dX3_turnBackToFirst_26 : decode cX3_turnBackToFirst 26 = .ok (.invokevirtual 63, 3) := by decide +kernel
theorem dX3_turnBackToFirst_29 : decode cX3_turnBackToFirst 29 = .ok (.if_icmp .ne 16, 3) := by decide +kernel
theorem dX3_turnBackToFirst_32 : decode cX3_turnBackToFirst 32 = .ok (.aload_n 0, 1) := by decide +kernel
theorem dX3_turnBackToFirst_33 : decode cX3_turnBackToFirst 33 = .ok (.iload_n 2, 1) := by decide +kernel
theorem dX3_turnBackToFirst_34 : decode cX3_turnBackToFirst 34 = .ok (.invokevirtual 121, 3) := by decide +kernel
theorem dX3_turnBackToFirst_37 : decode cX3_turnBackToFirst 37 = .ok (.ifCond .eq 8, 3) := by decide +kernel
theorem dX3_turnBackToFirst_40 : decode cX3_turnBackToFirst 40 = .ok (.aload_n 1, 1) := by decide +kernel
theorem dX3_turnBackToFirst_41 : decode cX3_turnBackToFirst 41 = .ok (.iload_n 2, 1) := by decide +kernel
theorem dX3_turnBackToFirst_42 : decode cX3_turnBackToFirst 42 = .ok (.invokevirtual 209, 3) := by decide +kernel
theorem dX3_turnBackToFirst_45 : decode cX3_turnBackToFirst 45 = .ok (.return_, 1) := by decide +kernel
theorem dX3_beginCrossing_0 : decode cX3_beginCrossing 0 = .ok (.aload_n 0, 1) := by decide +kernel
theorem dX3_beginCrossing_1 : decode cX3_beginCrossing 1 = .ok (.iconst 1, 1) := by decide +kernel
theorem dX3_beginCrossing_2 : decode cX3_beginCrossing 2 = .ok (.putfield 103, 3) := by decide +kernel
theorem dX3_beginCrossing_5 : decode cX3_beginCrossing 5 = .ok (.aload_n 0, 1) := by decide +kernel
theorem dX3_beginCrossing_6 : decode cX3_beginCrossing 6 = .ok (.dup, 1) := by decide +kernel
theorem dX3_beginCrossing_7 : decode cX3_beginCrossing 7 = .ok (.getfield 162, 3) := by decide +kernel
theorem dX3_beginCrossing_10 : decode cX3_beginCrossing 10 = .ok (.iconst 1, 1) := by decide +kernel
theorem dX3_beginCrossing_11 : decode cX3_beginCrossing 11 = .ok (.iadd, 1) := by decide +kernel
theorem dX3_beginCrossing_12 : decode cX3_beginCrossing 12 = .ok (.putfield 162, 3) := by decide +kernel
theorem dX3_beginCrossing_15 : decode cX3_beginCrossing 15 = .ok (.iconst 0, 1) := by decide +kernel
theorem dX3_beginCrossing_16 : decode cX3_beginCrossing 16 = .ok (.istore_n 1, 1) := by decide +kernel
theorem dX3_beginCrossing_17 : decode cX3_beginCrossing 17 = .ok (.iload_n 1, 1) := by decide +kernel
theorem dX3_beginCrossing_18 : decode cX3_beginCrossing 18 = .ok (.iconst 2, 1) := by decide +kernel
theorem dX3_beginCrossing_19 : decode cX3_beginCrossing 19 = .ok (.if_icmp .ge 32, 3) := by decide +kernel
theorem dX3_beginCrossing_22 : decode cX3_beginCrossing 22 = .ok (.aload_n 0, 1) := by decide +kernel
theorem dX3_beginCrossing_23 : decode cX3_beginCrossing 23 = .ok (.getfield 18, 3) := by decide +kernel
theorem dX3_beginCrossing_26 : decode cX3_beginCrossing 26 = .ok (.iload_n 1, 1) := by decide +kernel
theorem dX3_beginCrossing_27 : decode cX3_beginCrossing 27 = .ok (.aaload, 1) := by decide +kernel
theorem dX3_beginCrossing_28 : decode cX3_beginCrossing 28 = .ok (.getfield 140, 3) := by decide +kernel
theorem dX3_beginCrossing_31 : decode cX3_beginCrossing 31 = .ok (.iconst 1, 1) := by decide +kernel
theorem dX3_beginCrossing_32 : decode cX3_beginCrossing 32 = .ok (.if_icmp .ne 13, 3) := by decide +kernel
theorem dX3_beginCrossing_35 : decode cX3_beginCrossing 35 = .ok (.aload_n 0, 1) := by decide +kernel
theorem dX3_beginCrossing_36 : decode cX3_beginCrossing 36 = .ok (.getfield 18, 3) := by decide +kernel
theorem dX3_beginCrossing_39 : decode cX3_beginCrossing 39 = .ok (.iload_n 1, 1) := by decide +kernel
theorem dX3_beginCrossing_40 : decode cX3_beginCrossing 40 = .ok (.aaload, 1) := by decide +kernel
theorem dX3_beginCrossing_41 : decode cX3_beginCrossing 41 = .ok (.iconst (-1), 1) := by decide +kernel
theorem dX3_beginCrossing_42 : decode cX3_beginCrossing 42 = .ok (.invokevirtual 209, 3) := by decide +kernel
theorem dX3_beginCrossing_45 : decode cX3_beginCrossing 45 = .ok (.iinc 1 1, 3) := by decide +kernel
theorem dX3_beginCrossing_48 : decode cX3_beginCrossing 48 = .ok (.goto (-31), 3) := by decide +kernel
theorem dX3_beginCrossing_51 : decode cX3_beginCrossing 51 = .ok (.return_, 1) := by decide +kernel
theorem dX3_endCrossing_0 : decode cX3_endCrossing 0 = .ok (.aload_n 0, 1) := by decide +kernel
theorem dX3_endCrossing_1 : decode cX3_endCrossing 1 = .ok (.iconst 0, 1) := by decide +kernel
theorem dX3_endCrossing_2 : decode cX3_endCrossing 2 = .ok (.putfield 103, 3) := by decide +kernel
theorem dX3_endCrossing_5 : decode cX3_endCrossing 5 = .ok (.aload_n 0, 1) := by decide +kernel
theorem dX3_endCrossing_6 : decode cX3_endCrossing 6 = .ok (.iconst 1, 1) := by decide +kernel
theorem dX3_endCrossing_7 : decode cX3_endCrossing 7 = .ok (.aload_n 0, 1) := by decide +kernel
theorem dX3_endCrossing_8 : decode cX3_endCrossing 8 = .ok (.getfield 106, 3) := by decide +kernel
theorem dX3_endCrossing_11 : decode cX3_endCrossing 11 = .ok (.isub, 1) := by decide +kernel
theorem dX3_endCrossing_12 : decode cX3_endCrossing 12 = .ok (.putfield 106, 3) := by decide +kernel
theorem dX3_endCrossing_15 : decode cX3_endCrossing 15 = .ok (.iconst 0, 1) := by decide +kernel
theorem dX3_endCrossing_16 : decode cX3_endCrossing 16 = .ok (.istore_n 1, 1) := by decide +kernel
theorem dX3_endCrossing_17 : decode cX3_endCrossing 17 = .ok (.iload_n 1, 1) := by decide +kernel
theorem dX3_endCrossing_18 : decode cX3_endCrossing 18 = .ok (.iconst 2, 1) := by decide +kernel
theorem dX3_endCrossing_19 : decode cX3_endCrossing 19 = .ok (.if_icmp .ge 48, 3) := by decide +kernel
theorem dX3_endCrossing_22 : decode cX3_endCrossing 22 = .ok (.aload_n 0, 1) := by decide +kernel
theorem dX3_endCrossing_23 : decode cX3_endCrossing 23 = .ok (.getfield 18, 3) := by decide +kernel
theorem dX3_endCrossing_26 : decode cX3_endCrossing 26 = .ok (.iload_n 1, 1) := by decide +kernel
theorem dX3_endCrossing_27 : decode cX3_endCrossing 27 = .ok (.aaload, 1) := by decide +kernel
theorem dX3_endCrossing_28 : decode cX3_endCrossing 28 = .ok (.astore_n 2, 1) := by decide +kernel
theorem dX3_endCrossing_29 : decode cX3_endCrossing 29 = .ok (.aload_n 0, 1) := by decide +kernel
theorem dX3_endCrossing_30 : decode cX3_endCrossing 30 = .ok (.aload_n 2, 1) := by decide +kernel
