theorem dX4_look_54 : decode cX4_look 54 = .ok (.iload 6, 2) := by decide +kernel
theorem dX4_look_56 : decode cX4_look 56 = .ok (.invokevirtual 147, 3) := by decide +kernel
theorem dX4_look_59 : decode cX4_look 59 = .ok (.ifCond .le 7, 3) := by decide +kernel
theorem dX4_look_62 : decode cX4_look 62 = .ok (.iconst 1, 1) := by decide +kernel
theorem dX4_look_63 : decode cX4_look 63 = .ok (.goto 4, 3) := by decide +kernel
theorem dX4_look_66 : decode cX4_look 66 = .ok (.iconst 0, 1) := by decide +kernel
theorem dX4_look_67 : decode cX4_look 67 = .ok (.istore_n 1, 1) := by decide +kernel
theorem dX4_look_68 : decode cX4_look 68 = .ok (.iinc 6 1, 3) := by decide +kernel
theorem dX4_look_71 : decode cX4_look 71 = .ok (.goto (-44), 3) := by decide +kernel
theorem dX4_look_74 : decode cX4_look 74 = .ok (.iload_n 2, 1) := by decide +kernel
theorem dX4_look_75 : decode cX4_look 75 = .ok (.ifCond .ne 19, 3) := by decide +kernel
theorem dX4_look_78 : decode cX4_look 78 = .ok (.iload 5, 2) := by decide +kernel
theorem dX4_look_80 : decode cX4_look 80 = .ok (.ifCond .ne 18, 3) := by decide +kernel
theorem dX4_look_83 : decode cX4_look 83 = .ok (.aload_n 0, 1) := by decide +kernel
theorem dX4_look_84 : decode cX4_look 84 = .ok (.getfield 65, 3) := by decide +kernel
theorem dX4_look_87 : decode cX4_look 87 = .ok (.iload 4, 2) := by decide +kernel
theorem dX4_look_89 : decode cX4_look 89 = .ok (.iaload, 1) := by decide +kernel
theorem dX4_look_90 : decode cX4_look 90 = .ok (.iconst 2, 1) := by decide +kernel
theorem dX4_look_91 : decode cX4_look 91 = .ok (.if_icmp .ne 7, 3) := by decide +kernel
theorem dX4_look_94 : decode cX4_look 94 = .ok (.iconst 1, 1) := by decide +kernel
theorem dX4_look_95 : decode cX4_look 95 = .ok (.goto 4, 3) := by decide +kernel
theorem dX4_look_98 : decode cX4_look 98 = .ok (.iconst 0, 1) := by decide +kernel
theorem dX4_look_99 : decode cX4_look 99 = .ok (.istore_n 2, 1) := by decide +kernel
theorem dX4_look_100 : decode cX4_look 100 = .ok (.iload_n 3, 1) := by decide +kernel
theorem dX4_look_101 : decode cX4_look 101 = .ok (.ifCond .ne 30, 3) := by decide +kernel
theorem dX4_look_104 : decode cX4_look 104 = .ok (.iload 5, 2) := by decide +kernel
theorem dX4_look_106 : decode cX4_look 106 = .ok (.ifCond .ne 29, 3) := by decide +kernel
theorem dX4_look_109 : decode cX4_look 109 = .ok (.aload_n 0, 1) := by decide +kernel
theorem dX4_look_110 : decode cX4_look 110 = .ok (.getfield 65, 3) := by decide +kernel
theorem dX4_look_113 : decode cX4_look 113 = .ok (.iload 4, 2) := by decide +kernel
theorem dX4_look_115 : decode cX4_look 115 = .ok (.iaload, 1) := by decide +kernel
theorem dX4_look_116 : decode cX4_look 116 = .ok (.iconst 1, 1) := by decide +kernel
theorem dX4_look_117 : decode cX4_look 117 = .ok (.if_icmp .ne 18, 3) := by decide +kernel
theorem dX4_look_120 : decode cX4_look 120 = .ok (.aload_n 0, 1) := by decide +kernel
theorem dX4_look_121 : decode cX4_look 121 = .ok (.getfield 68, 3) := by decide +kernel
theorem dX4_look_124 : decode cX4_look 124 = .ok (.iload 4, 2) := by decide +kernel
theorem dX4_look_126 : decode cX4_look 126 = .ok (.iaload, 1) := by decide +kernel
theorem dX4_look_127 : decode cX4_look 127 = .ok (.iconst 3, 1) := by decide +kernel
theorem dX4_look_128 : decode cX4_look 128 = .ok (.if_icmp .ge 7, 3) := by decide +kernel
theorem dX4_look_131 : decode cX4_look 131 = .ok (.iconst 1, 1) := by decide +kernel
theorem dX4_look_132 : decode cX4_look 132 = .ok (.goto 4, 3) := by decide +kernel
theorem dX4_look_135 : decode cX4_look 135 = .ok (.iconst 0, 1) := by decide +kernel
theorem dX4_look_136 : decode cX4_look 136 = .ok (.istore_n 3, 1) := by decide +kernel
theorem dX4_look_137 : decode cX4_look 137 = .ok (.iinc 4 1, 3) := by decide +kernel
theorem dX4_look_140 : decode cX4_look 140 = .ok (.goto (-131), 3) := by decide +kernel
theorem dX4_look_143 : decode cX4_look 143 = .ok (.aload_n 0, 1) := by decide +kernel
theorem dX4_look_144 : decode cX4_look 144 = .ok (.iload_n 1, 1) := by decide +kernel
theorem dX4_look_145 : decode cX4_look 145 = .ok (.ifCond .eq 14, 3) := by decide +kernel
theorem dX4_look_148 : decode cX4_look 148 = .ok (.aload_n 0, 1) := by decide +kernel
theorem dX4_look_149 : decode cX4_look 149 = .ok (.getfield 154, 3) := by decide +kernel
theorem dX4_look_152 : decode cX4_look 152 = .ok (.ifCond .eq 7, 3) := by decide +kernel
theorem dX4_look_155 : decode cX4_look 155 = .ok (.iconst 1, 1) := by decide +kernel
theorem dX4_look_156 : decode cX4_look 156 = .ok (.goto 20, 3) := by decide +kernel
theorem dX4_look_159 : decode cX4_look 159 = .ok (.iload_n 2, 1) := by decide +kernel
theorem dX4_look_160 : decode cX4_look 160 = .ok (.ifCond .eq 7, 3) := by decide +kernel
theorem dX4_look_163 : decode cX4_look 163 = .ok (.iconst 2, 1) := by decide +kernel
theorem dX4_look_164 : decode cX4_look 164 = .ok (.goto 12, 3) := by decide +kernel
theorem dX4_look_167 : decode cX4_look 167 = .ok (.iload_n 3, 1) := by decide +kernel
theorem dX4_look_168 : decode cX4_look 168 = .ok (.ifCond .eq 7, 3) := by decide +kernel
theorem dX4_look_171 : decode cX4_look 171 = .ok (.iconst 3, 1) := by decide +kernel
theorem dX4_look_172 : decode cX4_look 172 = .ok (.goto 4, 3) := by decide +kernel
theorem dX4_look_175 : decode cX4_look 175 = .ok (.iconst 0, 1) := by decide +kernel
theorem dX4_look_176 : decode cX4_look 176 = .ok (.putfield 157, 3) := by decide +kernel
theorem dX4_look_179 : decode cX4_look 179 = .ok (.aload_n 0, 1) := by decide +kernel
theorem dX4_look_180 : decode cX4_look 180 = .ok (.iload_n 1, 1) := by decide +kernel
theorem dX4_look_181 : decode cX4_look 181 = .ok (.putfield 154, 3) := by decide +kernel
theorem dX4_look_184 : decode cX4_look 184 = .ok (.iconst 0, 1) := by decide +kernel
theorem dX4_look_185 : decode cX4_look 185 = .ok (.istore 4, 2) := by decide +kernel
theorem dX4_look_187 : decode cX4_look 187 = .ok (.iload 4, 2) := by decide +kernel
theorem dX4_look_189 : decode cX4_look 189 = .ok (.bipush 8, 2) := by decide +kernel
theorem dX4_look_191 : decode cX4_look 191 = .ok (.if_icmp .ge 53, 3) := by decide +kernel
theorem dX4_look_194 : decode cX4_look 194 = .ok (.aload_n 0, 1) := by decide +kernel
theorem dX4_look_195 : decode cX4_look 195 = .ok (.getfield 65, 3) := by decide +kernel
theorem dX4_look_198 : decode cX4_look 198 = .ok (.iload 4, 2) := by decide +kernel
theorem dX4_look_200 : decode cX4_look 200 = .ok (.aload_n 0, 1) := by decide +kernel
theorem dX4_look_201 : decode cX4_look 201 = .ok (.iload 4, 2) := by decide +kernel
theorem dX4_look_203 : decode cX4_look 203 = .ok (.invokevirtual 147, 3) := by decide +kernel
theorem dX4_look_206 : decode cX4_look 206 = .ok (.iastore, 1) := by decide +kernel
theorem dX4_look_207 : decode cX4_look 207 = .ok (.aload_n 0, 1) := by decide +kernel
theorem dX4_look_208 : decode cX4_look 208 = .ok (.getfield 68, 3) := by decide +kernel
theorem dX4_look_211 : decode cX4_look 211 = .ok (.iload 4, 2) := by decide +kernel
theorem dX4_look_213 : decode cX4_look 213 = .ok (.aload_n 0, 1) := by decide +kernel
theorem dX4_look_214 : decode cX4_look 214 = .ok (.getfield 65, 3) := by decide +kernel
theorem dX4_look_217 : decode cX4_look 217 = .ok (.iload 4, 2) := by decide +kernel
theorem dX4_look_219 : decode cX4_look 219 = .ok (.iaload, 1) := by decide +kernel
theorem dX4_look_220 : decode cX4_look 220 = .ok (.iconst 1, 1) := by decide +kernel
theorem dX4_look_221 : decode cX4_look 221 = .ok (.if_icmp .ne 15, 3) := by decide +kernel
theorem dX4_look_224 : decode cX4_look 224 = .ok (.aload_n 0, 1) := by decide +kernel
theorem dX4_look_225 : decode cX4_look 225 = .ok (.getfield 68, 3) := by decide +kernel
theorem dX4_look_228 : decode cX4_look 228 = .ok (.iload 4, 2) := by decide +kernel
theorem dX4_look_230 : decode cX4_look 230 = .ok (.iaload, 1) := by decide +kernel
theorem dX4_look_231 : decode cX4_look 231 = .ok (.iconst 1, 1) := by decide +kernel
theorem dX4_look_232 : decode cX4_look 232 = .ok (.iadd, 1) := by decide +kernel
theorem dX4_look_233 : decode cX4_look 233 = .ok (.goto 4, 3) := by decide +kernel
theorem dX4_look_236 : decode cX4_look 236 = .ok (.iconst 0, 1) := by decide +kernel
theorem dX4_look_237 : decode cX4_look 237 = .ok (.iastore, 1) := by decide +kernel
theorem dX4_look_238 : decode cX4_look 238 = .ok (.iinc 4 1, 3) := by decide +kernel
theorem dX4_look_241 : decode cX4_look 241 = .ok (.goto (-54), 3) := by decide +kernel
theorem dX4_look_244 : decode cX4_look 244 = .ok (.return_, 1) := by decide +kernel
theorem dX4_allGreens_0 : decode cX4_allGreens 0 = .ok (.iconst 0, 1) := by decide +kernel
theorem dX4_allGreens_1 : decode cX4_allGreens 1 = .ok (.istore_n 1, 1) := by decide +kernel
theorem dX4_allGreens_2 : decode cX4_allGreens 2 = .ok (.iconst 0, 1) := by decide +kernel
theorem dX4_allGreens_3 : decode cX4_allGreens 3 = .ok (.istore_n 2, 1) := by decide +kernel
theorem dX4_allGreens_4 : decode cX4_allGreens 4 = .ok (.iload_n 2, 1) := by decide +kernel
theorem dX4_allGreens_5 : decode cX4_allGreens 5 = .ok (.bipush 8, 2) := by decide +kernel
theorem dX4_allGreens_7 : decode cX4_allGreens 7 = .ok (.if_icmp .ge 18, 3) := by decide +kernel
theorem dX4_allGreens_10 : decode cX4_allGreens 10 = .ok (.iload_n 1, 1) := by decide +kernel
theorem dX4_allGreens_11 : decode cX4_allGreens 11 = .ok (.aload_n 0, 1) := by decide +kernel
theorem dX4_allGreens_12 : decode cX4_allGreens 12 = .ok (.getfield 32, 3) := by decide +kernel
theorem dX4_allGreens_15 : decode cX4_allGreens 15 = .ok (.iload_n 2, 1) := by decide +kernel
theorem dX4_allGreens_16 : decode cX4_allGreens 16 = .ok (.iaload, 1) := by decide +kernel
theorem dX4_allGreens_17 : decode cX4_allGreens 17 = .ok (.iadd, 1) := by decide +kernel
theorem dX4_allGreens_18 : decode cX4_allGreens 18 = .ok (.istore_n 1, 1) := by decide +kernel
theorem dX4_allGreens_19 : decode cX4_allGreens 19 = .ok (.iinc 2 1, 3) := by decide +kernel
theorem dX4_allGreens_22 : decode cX4_allGreens 22 = .ok (.goto (-18), 3) := by decide +kernel
theorem dX4_allGreens_25 : decode cX4_allGreens 25 = .ok (.iload_n 1, 1) := by decide +kernel
theorem dX4_allGreens_26 : decode cX4_allGreens 26 = .ok (.ireturn, 1) := by decide +kernel
theorem dX4_run_0 : decode cX4_run 0 = .ok (.aload_n 0, 1) := by decide +kernel
theorem dX4_run_1 : decode cX4_run 1 = .ok (.iconst 0, 1) := by decide +kernel
theorem dX4_run_2 : decode cX4_run 2 = .ok (.putfield 71, 3) := by decide +kernel
theorem dX4_run_5 : decode cX4_run 5 = .ok (.iload_n 1, 1) := by decide +kernel
theorem dX4_run_6 : decode cX4_run 6 = .ok (.ifCond .lt 10, 3) := by decide +kernel
theorem dX4_run_9 : decode cX4_run 9 = .ok (.iload_n 1, 1) := by decide +kernel
theorem dX4_run_10 : decode cX4_run 10 = .ok (.sipush 500, 3) := by decide +kernel
theorem dX4_run_13 : decode cX4_run 13 = .ok (.if_icmp .le 5, 3) := by decide +kernel
theorem dX4_run_16 : decode cX4_run 16 = .ok (.iconst (-1), 1) := by decide +kernel
theorem dX4_run_17 : decode cX4_run 17 = .ok (.ireturn, 1) := by decide +kernel
theorem dX4_run_18 : decode cX4_run 18 = .ok (.aload_n 0, 1) := by decide +kernel
theorem dX4_run_19 : decode cX4_run 19 = .ok (.invokevirtual 160, 3) := by decide +kernel
theorem dX4_run_22 : decode cX4_run 22 = .ok (.istore_n 2, 1) := by decide +kernel
theorem dX4_run_23 : decode cX4_run 23 = .ok (.iconst 0, 1) := by decide +kernel
theorem dX4_run_24 : decode cX4_run 24 = .ok (.istore_n 3, 1) := by decide +kernel
theorem dX4_run_25 : decode cX4_run 25 = .ok (.iload_n 3, 1) := by decide +kernel
theorem dX4_run_26 : decode cX4_run 26 = .ok (.iload_n 1, 1) := by decide +kernel
theorem dX4_run_27 : decode cX4_run 27 = .ok (.if_icmp .ge 34, 3) := by decide +kernel
theorem dX4_run_30 : decode cX4_run 30 = .ok (.aload_n 0, 1) := by decide +kernel
theorem dX4_run_31 : decode cX4_run 31 = .ok (.dup, 1) := by decide +kernel
theorem dX4_run_32 : decode cX4_run 32 = .ok (.getfield 164, 3) := by decide +kernel
theorem dX4_run_35 : decode cX4_run 35 = .ok (.iconst 1, 1) := by decide +kernel
theorem dX4_run_36 : decode cX4_run 36 = .ok (.iadd, 1) := by decide +kernel
theorem dX4_run_37 : decode cX4_run 37 = .ok (.putfield 164, 3) := by decide +kernel
theorem dX4_run_40 : decode cX4_run 40 = .ok (.aload_n 0, 1) := by decide +kernel
theorem dX4_run_41 : decode cX4_run 41 = .ok (.getfield 157, 3) := by decide +kernel
theorem dX4_run_44 : decode cX4_run 44 = .ok (.ifCond .ne 11, 3) := by decide +kernel
theorem dX4_run_47 : decode cX4_run 47 = .ok (.aload_n 0, 1) := by decide +kernel
theorem dX4_run_48 : decode cX4_run 48 = .ok (.invokevirtual 167, 3) := by decide +kernel
theorem dX4_run_51 : decode cX4_run 51 = .ok (.aload_n 0, 1) := by decide +kernel
theorem dX4_run_52 : decode cX4_run 52 = .ok (.invokevirtual 170, 3) := by decide +kernel
theorem dX4_run_55 : decode cX4_run 55 = .ok (.iinc 3 1, 3) := by decide +kernel
theorem dX4_run_58 : decode cX4_run 58 = .ok (.goto (-33), 3) := by decide +kernel
theorem dX4_run_61 : decode cX4_run 61 = .ok (.aload_n 0, 1) := by decide +kernel
theorem dX4_run_62 : decode cX4_run 62 = .ok (.invokevirtual 160, 3) := by decide +kernel
theorem dX4_run_65 : decode cX4_run 65 = .ok (.iload_n 2, 1) := by decide +kernel
theorem dX4_run_66 : decode cX4_run 66 = .ok (.isub, 1) := by decide +kernel
theorem dX4_run_67 : decode cX4_run 67 = .ok (.ireturn, 1) := by decide +kernel
theorem dX4_restart_0 : decode cX4_restart 0 = .ok (.aload_n 0, 1) := by decide +kernel
theorem dX4_restart_1 : decode cX4_restart 1 = .ok (.iconst 0, 1) := by decide +kernel
theorem dX4_restart_2 : decode cX4_restart 2 = .ok (.putfield 71, 3) := by decide +kernel
theorem dX4_restart_5 : decode cX4_restart 5 = .ok (.aload_n 0, 1) := by decide +kernel
theorem dX4_restart_6 : decode cX4_restart 6 = .ok (.getfield 157, 3) := by decide +kernel
theorem dX4_restart_9 : decode cX4_restart 9 = .ok (.ifCond .ne 5, 3) := by decide +kernel
theorem dX4_restart_12 : decode cX4_restart 12 = .ok (.iconst 0, 1) := by decide +kernel
theorem dX4_restart_13 : decode cX4_restart 13 = .ok (.ireturn, 1) := by decide +kernel
theorem dX4_restart_14 : decode cX4_restart 14 = .ok (.aload_n 0, 1) := by decide +kernel
theorem dX4_restart_15 : decode cX4_restart 15 = .ok (.iconst 0, 1) := by decide +kernel
theorem dX4_restart_16 : decode cX4_restart 16 = .ok (.putfield 157, 3) := by decide +kernel
theorem dX4_restart_19 : decode cX4_restart 19 = .ok (.aload_n 0, 1) := by decide +kernel
theorem dX4_restart_20 : decode cX4_restart 20 = .ok (.iconst 0, 1) := by decide +kernel
theorem dX4_restart_21 : decode cX4_restart 21 = .ok (.putfield 119, 3) := by decide +kernel
theorem dX4_restart_24 : decode cX4_restart 24 = .ok (.aload_n 0, 1) := by decide +kernel
theorem dX4_restart_25 : decode cX4_restart 25 = .ok (.iconst 0, 1) := by decide +kernel
theorem dX4_restart_26 : decode cX4_restart 26 = .ok (.putfield 113, 3) := by decide +kernel
theorem dX4_restart_29 : decode cX4_restart 29 = .ok (.aload_n 0, 1) := by decide +kernel
theorem dX4_restart_30 : decode cX4_restart 30 = .ok (.iconst 0, 1) := by decide +kernel
theorem dX4_restart_31 : decode cX4_restart 31 = .ok (.putfield 154, 3) := by decide +kernel
theorem dX4_restart_34 : decode cX4_restart 34 = .ok (.iconst 0, 1) := by decide +kernel
theorem dX4_restart_35 : decode cX4_restart 35 = .ok (.istore_n 1, 1) := by decide +kernel
theorem dX4_restart_36 : decode cX4_restart 36 = .ok (.iload_n 1, 1) := by decide +kernel
theorem dX4_restart_37 : decode cX4_restart 37 = .ok (.iconst 2, 1) := by decide +kernel
theorem dX4_restart_38 : decode cX4_restart 38 = .ok (.if_icmp .ge 21, 3) := by decide +kernel
theorem dX4_restart_41 : decode cX4_restart 41 = .ok (.aload_n 0, 1) := by decide +kernel
theorem dX4_restart_42 : decode cX4_restart 42 = .ok (.iload_n 1, 1) := by decide +kernel
theorem dX4_restart_43 : decode cX4_restart 43 = .ok (.invokevirtual 106, 3) := by decide +kernel
theorem dX4_restart_46 : decode cX4_restart 46 = .ok (.aload_n 0, 1) := by decide +kernel
theorem dX4_restart_47 : decode cX4_restart 47 = .ok (.getfield 44, 3) := by decide +kernel
theorem dX4_restart_50 : decode cX4_restart 50 = .ok (.iload_n 1, 1) := by decide +kernel
theorem dX4_restart_51 : decode cX4_restart 51 = .ok (.iconst (-1), 1) := by decide +kernel
theorem dX4_restart_52 : decode cX4_restart 52 = .ok (.iastore, 1) := by decide +kernel
theorem dX4_restart_53 : decode cX4_restart 53 = .ok (.iinc 1 1, 3) := by decide +kernel
theorem dX4_restart_56 : decode cX4_restart 56 = .ok (.goto (-20), 3) := by decide +kernel
theorem dX4_restart_59 : decode cX4_restart 59 = .ok (.iconst 0, 1) := by decide +kernel
theorem dX4_restart_60 : decode cX4_restart 60 = .ok (.istore_n 1, 1) := by decide +kernel
theorem dX4_restart_61 : decode cX4_restart 61 = .ok (.iload_n 1, 1) := by decide +kernel
theorem dX4_restart_62 : decode cX4_restart 62 = .ok (.bipush 8, 2) := by decide +kernel
theorem dX4_restart_64 : decode cX4_restart 64 = .ok (.if_icmp .ge 23, 3) := by decide +kernel
theorem dX4_restart_67 : decode cX4_restart 67 = .ok (.aload_n 0, 1) := by decide +kernel
theorem dX4_restart_68 : decode cX4_restart 68 = .ok (.getfield 65, 3) := by decide +kernel
theorem dX4_restart_71 : decode cX4_restart 71 = .ok (.iload_n 1, 1) := by decide +kernel
theorem dX4_restart_72 : decode cX4_restart 72 = .ok (.iconst (-1), 1) := by decide +kernel
theorem dX4_restart_73 : decode cX4_restart 73 = .ok (.iastore, 1) := by decide +kernel
theorem dX4_restart_74 : decode cX4_restart 74 = .ok (.aload_n 0, 1) := by decide +kernel
theorem dX4_restart_75 : decode cX4_restart 75 = .ok (.getfield 68, 3) := by decide +kernel
theorem dX4_restart_78 : decode cX4_restart 78 = .ok (.iload_n 1, 1) := by decide +kernel
theorem dX4_restart_79 : decode cX4_restart 79 = .ok (.iconst 0, 1) := by decide +kernel
theorem dX4_restart_80 : decode cX4_restart 80 = .ok (.iastore, 1) := by decide +kernel
theorem dX4_restart_81 : decode cX4_restart 81 = .ok (.iinc 1 1, 3) := by decide +kernel
theorem dX4_restart_84 : decode cX4_restart 84 = .ok (.goto (-23), 3) := by decide +kernel
theorem dX4_restart_87 : decode cX4_restart 87 = .ok (.iconst 1, 1) := by decide +kernel
theorem dX4_restart_88 : decode cX4_restart 88 = .ok (.ireturn, 1) := by decide +kernel
theorem dX4_of_0 : decode cX4_of 0 = .ok (.aload_n 0, 1) := by decide +kernel
theorem dX4_of_1 : decode cX4_of 1 = .ok (.iconst 0, 1) := by decide +kernel
theorem dX4_of_2 : decode cX4_of 2 = .ok (.putfield 71, 3) := by decide +kernel
theorem dX4_of_5 : decode cX4_of 5 = .ok (.iload_n 1, 1) := by decide +kernel
theorem dX4_of_6 : decode cX4_of 6 = .ok (.invokestatic 83, 3) := by decide +kernel
theorem dX4_of_9 : decode cX4_of 9 = .ok (.ifCond .ne 5, 3) := by decide +kernel
theorem dX4_of_12 : decode cX4_of 12 = .ok (.iconst (-1), 1) := by decide +kernel
theorem dX4_of_13 : decode cX4_of 13 = .ok (.ireturn, 1) := by decide +kernel
theorem dX4_of_14 : decode cX4_of 14 = .ok (.iload_n 1, 1) := by decide +kernel
theorem dX4_of_15 : decode cX4_of 15 = .ok (.iconst 4, 1) := by decide +kernel
theorem dX4_of_16 : decode cX4_of 16 = .ok (.idiv, 1) := by decide +kernel
theorem dX4_of_17 : decode cX4_of 17 = .ok (.istore_n 3, 1) := by decide +kernel
theorem dX4_of_18 : decode cX4_of 18 = .ok (.iload_n 2, 1) := by decide +kernel
theorem dX4_of_19 : decode cX4_of 19 = .ok (.tableswitch 188 0 8 #[49, 66, 108, 122, 129, 136, 143, 158, 173], 49) := by decide +kernel
theorem dX4_of_68 : decode cX4_of 68 = .ok (.aload_n 0, 1) := by decide +kernel
theorem dX4_of_69 : decode cX4_of 69 = .ok (.getfield 157, 3) := by decide +kernel
theorem dX4_of_72 : decode cX4_of 72 = .ok (.ifCond .le 7, 3) := by decide +kernel
theorem dX4_of_75 : decode cX4_of 75 = .ok (.iconst 3, 1) := by decide +kernel
theorem dX4_of_76 : decode cX4_of 76 = .ok (.goto 8, 3) := by decide +kernel
theorem dX4_of_79 : decode cX4_of 79 = .ok (.aload_n 0, 1) := by decide +kernel
theorem dX4_of_80 : decode cX4_of 80 = .ok (.iload_n 1, 1) := by decide +kernel
theorem dX4_of_81 : decode cX4_of 81 = .ok (.invokevirtual 147, 3) := by decide +kernel
theorem dX4_of_84 : decode cX4_of 84 = .ok (.ireturn, 1) := by decide +kernel
theorem dX4_of_85 : decode cX4_of 85 = .ok (.aload_n 0, 1) := by decide +kernel
theorem dX4_of_86 : decode cX4_of 86 = .ok (.getfield 41, 3) := by decide +kernel
theorem dX4_of_89 : decode cX4_of 89 = .ok (.iload_n 3, 1) := by decide +kernel
theorem dX4_of_90 : decode cX4_of 90 = .ok (.iaload, 1) := by decide +kernel
theorem dX4_of_91 : decode cX4_of 91 = .ok (.iload_n 1, 1) := by decide +kernel
theorem dX4_of_92 : decode cX4_of 92 = .ok (.if_icmp .eq 7, 3) := by decide +kernel
theorem dX4_of_95 : decode cX4_of 95 = .ok (.iconst 0, 1) := by decide +kernel
theorem dX4_of_96 : decode cX4_of 96 = .ok (.goto 30, 3) := by decide +kernel
theorem dX4_of_99 : decode cX4_of 99 = .ok (.aload_n 0, 1) := by decide +kernel
theorem dX4_of_100 : decode cX4_of 100 = .ok (.getfield 59, 3) := by decide +kernel
theorem dX4_of_103 : decode cX4_of 103 = .ok (.iload_n 3, 1) := by decide +kernel
theorem dX4_of_104 : decode cX4_of 104 = .ok (.iaload, 1) := by decide +kernel
theorem dX4_of_105 : decode cX4_of 105 = .ok (.ifCond .le 7, 3) := by decide +kernel
theorem dX4_of_108 : decode cX4_of 108 = .ok (.iconst 1, 1) := by decide +kernel
theorem dX4_of_109 : decode cX4_of 109 = .ok (.goto 17, 3) := by decide +kernel
theorem dX4_of_112 : decode cX4_of 112 = .ok (.aload_n 0, 1) := by decide +kernel
theorem dX4_of_113 : decode cX4_of 113 = .ok (.getfield 62, 3) := by decide +kernel
theorem dX4_of_116 : decode cX4_of 116 = .ok (.iload_n 3, 1) := by decide +kernel
theorem dX4_of_117 : decode cX4_of 117 = .ok (.iaload, 1) := by decide +kernel
theorem dX4_of_118 : decode cX4_of 118 = .ok (.ifCond .le 7, 3) := by decide +kernel
theorem dX4_of_121 : decode cX4_of 121 = .ok (.iconst 2, 1) := by decide +kernel
theorem dX4_of_122 : decode cX4_of 122 = .ok (.goto 4, 3) := by decide +kernel
theorem dX4_of_125 : decode cX4_of 125 = .ok (.iconst 0, 1) := by decide +kernel
theorem dX4_of_126 : decode cX4_of 126 = .ok (.ireturn, 1) := by decide +kernel
theorem dX4_of_127 : decode cX4_of 127 = .ok (.aload_n 0, 1) := by decide +kernel
theorem dX4_of_128 : decode cX4_of 128 = .ok (.iload_n 1, 1) := by decide +kernel
theorem dX4_of_129 : decode cX4_of 129 = .ok (.invokevirtual 100, 3) := by decide +kernel
theorem dX4_of_132 : decode cX4_of 132 = .ok (.ifCond .eq 7, 3) := by decide +kernel
theorem dX4_of_135 : decode cX4_of 135 = .ok (.iconst 1, 1) := by decide +kernel
theorem dX4_of_136 : decode cX4_of 136 = .ok (.goto 4, 3) := by decide +kernel
theorem dX4_of_139 : decode cX4_of 139 = .ok (.iconst 0, 1) := by decide +kernel
theorem dX4_of_140 : decode cX4_of 140 = .ok (.ireturn, 1) := by decide +kernel
theorem dX4_of_141 : decode cX4_of 141 = .ok (.aload_n 0, 1) := by decide +kernel
theorem dX4_of_142 : decode cX4_of 142 = .ok (.getfield 26, 3) := by decide +kernel
theorem dX4_of_145 : decode cX4_of 145 = .ok (.iload_n 1, 1) := by decide +kernel
theorem dX4_of_146 : decode cX4_of 146 = .ok (.iaload, 1) := by decide +kernel
theorem dX4_of_147 : decode cX4_of 147 = .ok (.ireturn, 1) := by decide +kernel
theorem dX4_of_148 : decode cX4_of 148 = .ok (.aload_n 0, 1) := by decide +kernel
theorem dX4_of_149 : decode cX4_of 149 = .ok (.getfield 29, 3) := by decide +kernel
theorem dX4_of_152 : decode cX4_of 152 = .ok (.iload_n 1, 1) := by decide +kernel
theorem dX4_of_153 : decode cX4_of 153 = .ok (.iaload, 1) := by decide +kernel
theorem dX4_of_154 : decode cX4_of 154 = .ok (.ireturn, 1) := by decide +kernel
theorem dX4_of_155 : decode cX4_of 155 = .ok (.aload_n 0, 1) := by decide +kernel
theorem dX4_of_156 : decode cX4_of 156 = .ok (.getfield 32, 3) := by decide +kernel
theorem dX4_of_159 : decode cX4_of 159 = .ok (.iload_n 1, 1) := by decide +kernel
theorem dX4_of_160 : decode cX4_of 160 = .ok (.iaload, 1) := by decide +kernel
theorem dX4_of_161 : decode cX4_of 161 = .ok (.ireturn, 1) := by decide +kernel
theorem dX4_of_162 : decode cX4_of 162 = .ok (.aload_n 0, 1) := by decide +kernel
theorem dX4_of_163 : decode cX4_of 163 = .ok (.getfield 16, 3) := by decide +kernel
theorem dX4_of_166 : decode cX4_of 166 = .ok (.iload_n 1, 1) := by decide +kernel
theorem dX4_of_167 : decode cX4_of 167 = .ok (.baload, 1) := by decide +kernel
theorem dX4_of_168 : decode cX4_of 168 = .ok (.ifCond .eq 7, 3) := by decide +kernel
theorem dX4_of_171 : decode cX4_of 171 = .ok (.iconst 1, 1) := by decide +kernel
theorem dX4_of_172 : decode cX4_of 172 = .ok (.goto 4, 3) := by decide +kernel
theorem dX4_of_175 : decode cX4_of 175 = .ok (.iconst 0, 1) := by decide +kernel
theorem dX4_of_176 : decode cX4_of 176 = .ok (.ireturn, 1) := by decide +kernel
theorem dX4_of_177 : decode cX4_of 177 = .ok (.aload_n 0, 1) := by decide +kernel
theorem dX4_of_178 : decode cX4_of 178 = .ok (.getfield 20, 3) := by decide +kernel
theorem dX4_of_181 : decode cX4_of 181 = .ok (.iload_n 1, 1) := by decide +kernel
theorem dX4_of_182 : decode cX4_of 182 = .ok (.baload, 1) := by decide +kernel
theorem dX4_of_183 : decode cX4_of 183 = .ok (.ifCond .eq 7, 3) := by decide +kernel
theorem dX4_of_186 : decode cX4_of 186 = .ok (.iconst 1, 1) := by decide +kernel
theorem dX4_of_187 : decode cX4_of 187 = .ok (.goto 4, 3) := by decide +kernel
theorem dX4_of_190 : decode cX4_of 190 = .ok (.iconst 0, 1) := by decide +kernel
theorem dX4_of_191 : decode cX4_of 191 = .ok (.ireturn, 1) := by decide +kernel
theorem dX4_of_192 : decode cX4_of 192 = .ok (.aload_n 0, 1) := by decide +kernel
theorem dX4_of_193 : decode cX4_of 193 = .ok (.getfield 23, 3) := by decide +kernel
theorem dX4_of_196 : decode cX4_of 196 = .ok (.iload_n 1, 1) := by decide +kernel
theorem dX4_of_197 : decode cX4_of 197 = .ok (.baload, 1) := by decide +kernel
theorem dX4_of_198 : decode cX4_of 198 = .ok (.ifCond .eq 7, 3) := by decide +kernel
theorem dX4_of_201 : decode cX4_of 201 = .ok (.iconst 1, 1) := by decide +kernel
theorem dX4_of_202 : decode cX4_of 202 = .ok (.goto 4, 3) := by decide +kernel
theorem dX4_of_205 : decode cX4_of 205 = .ok (.iconst 0, 1) := by decide +kernel
theorem dX4_of_206 : decode cX4_of 206 = .ok (.ireturn, 1) := by decide +kernel
theorem dX4_of_207 : decode cX4_of 207 = .ok (.iconst (-1), 1) := by decide +kernel
theorem dX4_of_208 : decode cX4_of 208 = .ok (.ireturn, 1) := by decide +kernel
theorem dX4_ring_0 : decode cX4_ring 0 = .ok (.aload_n 0, 1) := by decide +kernel
theorem dX4_ring_1 : decode cX4_ring 1 = .ok (.iconst 0, 1) := by decide +kernel
theorem dX4_ring_2 : decode cX4_ring 2 = .ok (.putfield 71, 3) := by decide +kernel
theorem dX4_ring_5 : decode cX4_ring 5 = .ok (.iload_n 1, 1) := by decide +kernel
theorem dX4_ring_6 : decode cX4_ring 6 = .ok (.ifCond .lt 8, 3) := by decide +kernel
theorem dX4_ring_9 : decode cX4_ring 9 = .ok (.iload_n 1, 1) := by decide +kernel
theorem dX4_ring_10 : decode cX4_ring 10 = .ok (.iconst 1, 1) := by decide +kernel
theorem dX4_ring_11 : decode cX4_ring 11 = .ok (.if_icmp .le 5, 3) := by decide +kernel
theorem dX4_ring_14 : decode cX4_ring 14 = .ok (.iconst (-1), 1) := by decide +kernel
theorem dX4_ring_15 : decode cX4_ring 15 = .ok (.ireturn, 1) := by decide +kernel
theorem dX4_ring_16 : decode cX4_ring 16 = .ok (.aload_n 0, 1) := by decide +kernel
theorem dX4_ring_17 : decode cX4_ring 17 = .ok (.getfield 47, 3) := by decide +kernel
theorem dX4_ring_20 : decode cX4_ring 20 = .ok (.iload_n 1, 1) := by decide +kernel
theorem dX4_ring_21 : decode cX4_ring 21 = .ok (.iaload, 1) := by decide +kernel
theorem dX4_ring_22 : decode cX4_ring 22 = .ok (.iconst 1, 1) := by decide +kernel
theorem dX4_ring_23 : decode cX4_ring 23 = .ok (.if_icmp .ne 7, 3) := by decide +kernel
theorem dX4_ring_26 : decode cX4_ring 26 = .ok (.iconst 1, 1) := by decide +kernel
theorem dX4_ring_27 : decode cX4_ring 27 = .ok (.goto 4, 3) := by decide +kernel
theorem dX4_ring_30 : decode cX4_ring 30 = .ok (.iconst 0, 1) := by decide +kernel
theorem dX4_ring_31 : decode cX4_ring 31 = .ok (.istore_n 3, 1) := by decide +kernel
theorem dX4_ring_32 : decode cX4_ring 32 = .ok (.iload_n 2, 1) := by decide +kernel
theorem dX4_ring_33 : decode cX4_ring 33 = .ok (.ifCond .ne 12, 3) := by decide +kernel
theorem dX4_ring_36 : decode cX4_ring 36 = .ok (.aload_n 0, 1) := by decide +kernel
theorem dX4_ring_37 : decode cX4_ring 37 = .ok (.getfield 41, 3) := by decide +kernel
theorem dX4_ring_40 : decode cX4_ring 40 = .ok (.iload_n 1, 1) := by decide +kernel
theorem dX4_ring_41 : decode cX4_ring 41 = .ok (.iaload, 1) := by decide +kernel
theorem dX4_ring_42 : decode cX4_ring 42 = .ok (.goto 112, 3) := by decide +kernel
theorem dX4_ring_45 : decode cX4_ring 45 = .ok (.iload_n 2, 1) := by decide +kernel
theorem dX4_ring_46 : decode cX4_ring 46 = .ok (.iconst 1, 1) := by decide +kernel
theorem dX4_ring_47 : decode cX4_ring 47 = .ok (.if_icmp .ne 12, 3) := by decide +kernel
theorem dX4_ring_50 : decode cX4_ring 50 = .ok (.aload_n 0, 1) := by decide +kernel
theorem dX4_ring_51 : decode cX4_ring 51 = .ok (.getfield 47, 3) := by decide +kernel
theorem dX4_ring_54 : decode cX4_ring 54 = .ok (.iload_n 1, 1) := by decide +kernel
theorem dX4_ring_55 : decode cX4_ring 55 = .ok (.iaload, 1) := by decide +kernel
theorem dX4_ring_56 : decode cX4_ring 56 = .ok (.goto 98, 3) := by decide +kernel
theorem dX4_ring_59 : decode cX4_ring 59 = .ok (.iload_n 2, 1) := by decide +kernel
theorem dX4_ring_60 : decode cX4_ring 60 = .ok (.iconst 2, 1) := by decide +kernel
theorem dX4_ring_61 : decode cX4_ring 61 = .ok (.if_icmp .ne 12, 3) := by decide +kernel
theorem dX4_ring_64 : decode cX4_ring 64 = .ok (.aload_n 0, 1) := by decide +kernel
theorem dX4_ring_65 : decode cX4_ring 65 = .ok (.getfield 50, 3) := by decide +kernel
theorem dX4_ring_68 : decode cX4_ring 68 = .ok (.iload_n 1, 1) := by decide +kernel
theorem dX4_ring_69 : decode cX4_ring 69 = .ok (.iaload, 1) := by decide +kernel
theorem dX4_ring_70 : decode cX4_ring 70 = .ok (.goto 84, 3) := by decide +kernel
theorem dX4_ring_73 : decode cX4_ring 73 = .ok (.iload_n 2, 1) := by decide +kernel
theorem dX4_ring_74 : decode cX4_ring 74 = .ok (.iconst 3, 1) := by decide +kernel
theorem dX4_ring_75 : decode cX4_ring 75 = .ok (.if_icmp .ne 20, 3) := by decide +kernel
theorem dX4_ring_78 : decode cX4_ring 78 = .ok (.iload_n 3, 1) := by decide +kernel
theorem dX4_ring_79 : decode cX4_ring 79 = .ok (.ifCond .eq 12, 3) := by decide +kernel
theorem dX4_ring_82 : decode cX4_ring 82 = .ok (.aload_n 0, 1) := by decide +kernel
theorem dX4_ring_83 : decode cX4_ring 83 = .ok (.getfield 53, 3) := by decide +kernel
theorem dX4_ring_86 : decode cX4_ring 86 = .ok (.iload_n 1, 1) := by decide +kernel
theorem dX4_ring_87 : decode cX4_ring 87 = .ok (.iaload, 1) := by decide +kernel
theorem dX4_ring_88 : decode cX4_ring 88 = .ok (.goto 66, 3) := by decide +kernel
theorem dX4_ring_91 : decode cX4_ring 91 = .ok (.iconst 0, 1) := by decide +kernel
theorem dX4_ring_92 : decode cX4_ring 92 = .ok (.goto 62, 3) := by decide +kernel
theorem dX4_ring_95 : decode cX4_ring 95 = .ok (.iload_n 2, 1) := by decide +kernel
theorem dX4_ring_96 : decode cX4_ring 96 = .ok (.iconst 4, 1) := by decide +kernel
theorem dX4_ring_97 : decode cX4_ring 97 = .ok (.if_icmp .ne 20, 3) := by decide +kernel
theorem dX4_ring_100 : decode cX4_ring 100 = .ok (.iload_n 3, 1) := by decide +kernel
theorem dX4_ring_101 : decode cX4_ring 101 = .ok (.ifCond .eq 12, 3) := by decide +kernel
theorem dX4_ring_104 : decode cX4_ring 104 = .ok (.aload_n 0, 1) := by decide +kernel
theorem dX4_ring_105 : decode cX4_ring 105 = .ok (.getfield 56, 3) := by decide +kernel
theorem dX4_ring_108 : decode cX4_ring 108 = .ok (.iload_n 1, 1) := by decide +kernel
theorem dX4_ring_109 : decode cX4_ring 109 = .ok (.iaload, 1) := by decide +kernel
theorem dX4_ring_110 : decode cX4_ring 110 = .ok (.goto 44, 3) := by decide +kernel
theorem dX4_ring_113 : decode cX4_ring 113 = .ok (.iconst 0, 1) := by decide +kernel
theorem dX4_ring_114 : decode cX4_ring 114 = .ok (.goto 40, 3) := by decide +kernel
theorem dX4_ring_117 : decode cX4_ring 117 = .ok (.iload_n 2, 1) := by decide +kernel
theorem dX4_ring_118 : decode cX4_ring 118 = .ok (.iconst 5, 1) := by decide +kernel
theorem dX4_ring_119 : decode cX4_ring 119 = .ok (.if_icmp .ne 19, 3) := by decide +kernel
theorem dX4_ring_122 : decode cX4_ring 122 = .ok (.aload_n 0, 1) := by decide +kernel
theorem dX4_ring_123 : decode cX4_ring 123 = .ok (.iload_n 1, 1) := by decide +kernel
theorem dX4_ring_124 : decode cX4_ring 124 = .ok (.invokevirtual 110, 3) := by decide +kernel
theorem dX4_ring_127 : decode cX4_ring 127 = .ok (.ifCond .eq 7, 3) := by decide +kernel
theorem dX4_ring_130 : decode cX4_ring 130 = .ok (.iconst 1, 1) := by decide +kernel
theorem dX4_ring_131 : decode cX4_ring 131 = .ok (.goto 23, 3) := by decide +kernel
theorem dX4_ring_134 : decode cX4_ring 134 = .ok (.iconst 0, 1) := by decide +kernel
theorem dX4_ring_135 : decode cX4_ring 135 = .ok (.goto 19, 3) := by decide +kernel
theorem dX4_ring_138 : decode cX4_ring 138 = .ok (.iload_n 2, 1) := by decide +kernel
theorem dX4_ring_139 : decode cX4_ring 139 = .ok (.bipush 6, 2) := by decide +kernel
theorem dX4_ring_141 : decode cX4_ring 141 = .ok (.if_icmp .ne 12, 3) := by decide +kernel
theorem dX4_ring_144 : decode cX4_ring 144 = .ok (.aload_n 0, 1) := by decide +kernel
theorem dX4_ring_145 : decode cX4_ring 145 = .ok (.getfield 44, 3) := by decide +kernel
theorem dX4_ring_148 : decode cX4_ring 148 = .ok (.iload_n 1, 1) := by decide +kernel
theorem dX4_ring_149 : decode cX4_ring 149 = .ok (.iaload, 1) := by decide +kernel
theorem dX4_ring_150 : decode cX4_ring 150 = .ok (.goto 4, 3) := by decide +kernel
theorem dX4_ring_153 : decode cX4_ring 153 = .ok (.iconst (-1), 1) := by decide +kernel
theorem dX4_ring_154 : decode cX4_ring 154 = .ok (.ireturn, 1) := by decide +kernel
theorem dX4_state_0 : decode cX4_state 0 = .ok (.aload_n 0, 1) := by decide +kernel
theorem dX4_state_1 : decode cX4_state 1 = .ok (.iconst 0, 1) := by decide +kernel
theorem dX4_state_2 : decode cX4_state 2 = .ok (.putfield 71, 3) := by decide +kernel
theorem dX4_state_5 : decode cX4_state 5 = .ok (.iload_n 1, 1) := by decide +kernel
theorem dX4_state_6 : decode cX4_state 6 = .ok (.ifCond .ne 10, 3) := by decide +kernel
theorem dX4_state_9 : decode cX4_state 9 = .ok (.aload_n 0, 1) := by decide +kernel
theorem dX4_state_10 : decode cX4_state 10 = .ok (.getfield 164, 3) := by decide +kernel
theorem dX4_state_13 : decode cX4_state 13 = .ok (.goto 60, 3) := by decide +kernel
theorem dX4_state_16 : decode cX4_state 16 = .ok (.iload_n 1, 1) := by decide +kernel
theorem dX4_state_17 : decode cX4_state 17 = .ok (.iconst 1, 1) := by decide +kernel
theorem dX4_state_18 : decode cX4_state 18 = .ok (.if_icmp .ne 10, 3) := by decide +kernel
theorem dX4_state_21 : decode cX4_state 21 = .ok (.aload_n 0, 1) := by decide +kernel
theorem dX4_state_22 : decode cX4_state 22 = .ok (.getfield 113, 3) := by decide +kernel
theorem dX4_state_25 : decode cX4_state 25 = .ok (.goto 48, 3) := by decide +kernel
theorem dX4_state_28 : decode cX4_state 28 = .ok (.iload_n 1, 1) := by decide +kernel
theorem dX4_state_29 : decode cX4_state 29 = .ok (.iconst 2, 1) := by decide +kernel
theorem dX4_state_30 : decode cX4_state 30 = .ok (.if_icmp .ne 18, 3) := by decide +kernel
theorem dX4_state_33 : decode cX4_state 33 = .ok (.aload_n 0, 1) := by decide +kernel
theorem dX4_state_34 : decode cX4_state 34 = .ok (.getfield 119, 3) := by decide +kernel
theorem dX4_state_37 : decode cX4_state 37 = .ok (.ifCond .eq 7, 3) := by decide +kernel
theorem dX4_state_40 : decode cX4_state 40 = .ok (.iconst 1, 1) := by decide +kernel
theorem dX4_state_41 : decode cX4_state 41 = .ok (.goto 32, 3) := by decide +kernel
theorem dX4_state_44 : decode cX4_state 44 = .ok (.iconst 0, 1) := by decide +kernel
theorem dX4_state_45 : decode cX4_state 45 = .ok (.goto 28, 3) := by decide +kernel
theorem dX4_state_48 : decode cX4_state 48 = .ok (.iload_n 1, 1) := by decide +kernel
theorem dX4_state_49 : decode cX4_state 49 = .ok (.iconst 3, 1) := by decide +kernel
theorem dX4_state_50 : decode cX4_state 50 = .ok (.if_icmp .ne 10, 3) := by decide +kernel
theorem dX4_state_53 : decode cX4_state 53 = .ok (.aload_n 0, 1) := by decide +kernel
theorem dX4_state_54 : decode cX4_state 54 = .ok (.getfield 157, 3) := by decide +kernel
theorem dX4_state_57 : decode cX4_state 57 = .ok (.goto 16, 3) := by decide +kernel
theorem dX4_state_60 : decode cX4_state 60 = .ok (.iload_n 1, 1) := by decide +kernel
theorem dX4_state_61 : decode cX4_state 61 = .ok (.iconst 4, 1) := by decide +kernel
theorem dX4_state_62 : decode cX4_state 62 = .ok (.if_icmp .ne 10, 3) := by decide +kernel
theorem dX4_state_65 : decode cX4_state 65 = .ok (.aload_n 0, 1) := by decide +kernel
theorem dX4_state_66 : decode cX4_state 66 = .ok (.getfield 126, 3) := by decide +kernel
theorem dX4_state_69 : decode cX4_state 69 = .ok (.goto 4, 3) := by decide +kernel
theorem dX4_state_72 : decode cX4_state 72 = .ok (.iconst (-1), 1) := by decide +kernel
theorem dX4_state_73 : decode cX4_state 73 = .ok (.ireturn, 1) := by decide +kernel
theorem dX4_check_0 : decode cX4_check 0 = .ok (.aload_n 0, 1) := by decide +kernel
theorem dX4_check_1 : decode cX4_check 1 = .ok (.iconst 0, 1) := by decide +kernel
theorem dX4_check_2 : decode cX4_check 2 = .ok (.putfield 71, 3) := by decide +kernel
theorem dX4_check_5 : decode cX4_check 5 = .ok (.iconst 1, 1) := by decide +kernel
theorem dX4_check_6 : decode cX4_check 6 = .ok (.ireturn, 1) := by decide +kernel
