theorem dX4_ageRing_28 : decode cX4_ageRing 28 = .ok (.getfield 47, 3) := by decide +kernel
theorem dX4_ageRing_31 : decode cX4_ageRing 31 = .ok (.iload_n 1, 1) := by decide +kernel
theorem dX4_ageRing_32 : decode cX4_ageRing 32 = .ok (.iaload, 1) := by decide +kernel
theorem dX4_ageRing_33 : decode cX4_ageRing 33 = .ok (.iconst 1, 1) := by decide +kernel
theorem dX4_ageRing_34 : decode cX4_ageRing 34 = .ok (.if_icmp .ne 164, 3) := by decide +kernel
theorem dX4_ageRing_37 : decode cX4_ageRing 37 = .ok (.iconst 0, 1) := by decide +kernel
theorem dX4_ageRing_38 : decode cX4_ageRing 38 = .ok (.istore_n 3, 1) := by decide +kernel
theorem dX4_ageRing_39 : decode cX4_ageRing 39 = .ok (.iconst 0, 1) := by decide +kernel
theorem dX4_ageRing_40 : decode cX4_ageRing 40 = .ok (.istore 4, 2) := by decide +kernel
theorem dX4_ageRing_42 : decode cX4_ageRing 42 = .ok (.iload 4, 2) := by decide +kernel
theorem dX4_ageRing_44 : decode cX4_ageRing 44 = .ok (.bipush 8, 2) := by decide +kernel
theorem dX4_ageRing_46 : decode cX4_ageRing 46 = .ok (.if_icmp .ge 34, 3) := by decide +kernel
theorem dX4_ageRing_49 : decode cX4_ageRing 49 = .ok (.iload_n 3, 1) := by decide +kernel
theorem dX4_ageRing_50 : decode cX4_ageRing 50 = .ok (.ifCond .ne 18, 3) := by decide +kernel
theorem dX4_ageRing_53 : decode cX4_ageRing 53 = .ok (.iload 4, 2) := by decide +kernel
theorem dX4_ageRing_55 : decode cX4_ageRing 55 = .ok (.iload_n 2, 1) := by decide +kernel
theorem dX4_ageRing_56 : decode cX4_ageRing 56 = .ok (.if_icmp .eq 16, 3) := by decide +kernel
theorem dX4_ageRing_59 : decode cX4_ageRing 59 = .ok (.aload_n 0, 1) := by decide +kernel
theorem dX4_ageRing_60 : decode cX4_ageRing 60 = .ok (.iload 4, 2) := by decide +kernel
theorem dX4_ageRing_62 : decode cX4_ageRing 62 = .ok (.invokevirtual 100, 3) := by decide +kernel
theorem dX4_ageRing_65 : decode cX4_ageRing 65 = .ok (.ifCond .eq 7, 3) := by decide +kernel
theorem dX4_ageRing_68 : decode cX4_ageRing 68 = .ok (.iconst 1, 1) := by decide +kernel
theorem dX4_ageRing_69 : decode cX4_ageRing 69 = .ok (.goto 4, 3) := by decide +kernel
theorem dX4_ageRing_72 : decode cX4_ageRing 72 = .ok (.iconst 0, 1) := by decide +kernel
theorem dX4_ageRing_73 : decode cX4_ageRing 73 = .ok (.istore_n 3, 1) := by decide +kernel
theorem dX4_ageRing_74 : decode cX4_ageRing 74 = .ok (.iinc 4 1, 3) := by decide +kernel
theorem dX4_ageRing_77 : decode cX4_ageRing 77 = .ok (.goto (-35), 3) := by decide +kernel
theorem dX4_ageRing_80 : decode cX4_ageRing 80 = .ok (.aload_n 0, 1) := by decide +kernel
theorem dX4_ageRing_81 : decode cX4_ageRing 81 = .ok (.getfield 53, 3) := by decide +kernel
theorem dX4_ageRing_84 : decode cX4_ageRing 84 = .ok (.iload_n 1, 1) := by decide +kernel
theorem dX4_ageRing_85 : decode cX4_ageRing 85 = .ok (.aload_n 0, 1) := by decide +kernel
theorem dX4_ageRing_86 : decode cX4_ageRing 86 = .ok (.getfield 16, 3) := by decide +kernel
theorem dX4_ageRing_89 : decode cX4_ageRing 89 = .ok (.iload_n 2, 1) := by decide +kernel
theorem dX4_ageRing_90 : decode cX4_ageRing 90 = .ok (.baload, 1) := by decide +kernel
theorem dX4_ageRing_91 : decode cX4_ageRing 91 = .ok (.ifCond .ne 13, 3) := by decide +kernel
theorem dX4_ageRing_94 : decode cX4_ageRing 94 = .ok (.aload_n 0, 1) := by decide +kernel
theorem dX4_ageRing_95 : decode cX4_ageRing 95 = .ok (.iload_n 2, 1) := by decide +kernel
theorem dX4_ageRing_96 : decode cX4_ageRing 96 = .ok (.bipush 8, 2) := by decide +kernel
theorem dX4_ageRing_98 : decode cX4_ageRing 98 = .ok (.invokevirtual 75, 3) := by decide +kernel
theorem dX4_ageRing_101 : decode cX4_ageRing 101 = .ok (.ifCond .eq 12, 3) := by decide +kernel
theorem dX4_ageRing_104 : decode cX4_ageRing 104 = .ok (.aload_n 0, 1) := by decide +kernel
theorem dX4_ageRing_105 : decode cX4_ageRing 105 = .ok (.iload_n 2, 1) := by decide +kernel
theorem dX4_ageRing_106 : decode cX4_ageRing 106 = .ok (.iconst 1, 1) := by decide +kernel
theorem dX4_ageRing_107 : decode cX4_ageRing 107 = .ok (.invokevirtual 103, 3) := by decide +kernel
theorem dX4_ageRing_110 : decode cX4_ageRing 110 = .ok (.goto 24, 3) := by decide +kernel
theorem dX4_ageRing_113 : decode cX4_ageRing 113 = .ok (.aload_n 0, 1) := by decide +kernel
theorem dX4_ageRing_114 : decode cX4_ageRing 114 = .ok (.getfield 53, 3) := by decide +kernel
theorem dX4_ageRing_117 : decode cX4_ageRing 117 = .ok (.iload_n 1, 1) := by decide +kernel
theorem dX4_ageRing_118 : decode cX4_ageRing 118 = .ok (.iaload, 1) := by decide +kernel
theorem dX4_ageRing_119 : decode cX4_ageRing 119 = .ok (.ifCond .le 14, 3) := by decide +kernel
theorem dX4_ageRing_122 : decode cX4_ageRing 122 = .ok (.aload_n 0, 1) := by decide +kernel
theorem dX4_ageRing_123 : decode cX4_ageRing 123 = .ok (.getfield 53, 3) := by decide +kernel
theorem dX4_ageRing_126 : decode cX4_ageRing 126 = .ok (.iload_n 1, 1) := by decide +kernel
theorem dX4_ageRing_127 : decode cX4_ageRing 127 = .ok (.iaload, 1) := by decide +kernel
theorem dX4_ageRing_128 : decode cX4_ageRing 128 = .ok (.iconst 1, 1) := by decide +kernel
theorem dX4_ageRing_129 : decode cX4_ageRing 129 = .ok (.isub, 1) := by decide +kernel
theorem dX4_ageRing_130 : decode cX4_ageRing 130 = .ok (.goto 4, 3) := by decide +kernel
theorem dX4_ageRing_133 : decode cX4_ageRing 133 = .ok (.iconst 0, 1) := by decide +kernel
theorem dX4_ageRing_134 : decode cX4_ageRing 134 = .ok (.iastore, 1) := by decide +kernel
theorem dX4_ageRing_135 : decode cX4_ageRing 135 = .ok (.aload_n 0, 1) := by decide +kernel
theorem dX4_ageRing_136 : decode cX4_ageRing 136 = .ok (.getfield 56, 3) := by decide +kernel
theorem dX4_ageRing_139 : decode cX4_ageRing 139 = .ok (.iload_n 1, 1) := by decide +kernel
theorem dX4_ageRing_140 : decode cX4_ageRing 140 = .ok (.iload_n 3, 1) := by decide +kernel
theorem dX4_ageRing_141 : decode cX4_ageRing 141 = .ok (.ifCond .eq 14, 3) := by decide +kernel
theorem dX4_ageRing_144 : decode cX4_ageRing 144 = .ok (.aload_n 0, 1) := by decide +kernel
theorem dX4_ageRing_145 : decode cX4_ageRing 145 = .ok (.getfield 56, 3) := by decide +kernel
theorem dX4_ageRing_148 : decode cX4_ageRing 148 = .ok (.iload_n 1, 1) := by decide +kernel
theorem dX4_ageRing_149 : decode cX4_ageRing 149 = .ok (.iaload, 1) := by decide +kernel
theorem dX4_ageRing_150 : decode cX4_ageRing 150 = .ok (.iconst 1, 1) := by decide +kernel
theorem dX4_ageRing_151 : decode cX4_ageRing 151 = .ok (.iadd, 1) := by decide +kernel
theorem dX4_ageRing_152 : decode cX4_ageRing 152 = .ok (.goto 4, 3) := by decide +kernel
theorem dX4_ageRing_155 : decode cX4_ageRing 155 = .ok (.iconst 0, 1) := by decide +kernel
theorem dX4_ageRing_156 : decode cX4_ageRing 156 = .ok (.iastore, 1) := by decide +kernel
theorem dX4_ageRing_157 : decode cX4_ageRing 157 = .ok (.aload_n 0, 1) := by decide +kernel
theorem dX4_ageRing_158 : decode cX4_ageRing 158 = .ok (.getfield 59, 3) := by decide +kernel
theorem dX4_ageRing_161 : decode cX4_ageRing 161 = .ok (.iload_n 1, 1) := by decide +kernel
theorem dX4_ageRing_162 : decode cX4_ageRing 162 = .ok (.iaload, 1) := by decide +kernel
theorem dX4_ageRing_163 : decode cX4_ageRing 163 = .ok (.ifCond .le 16, 3) := by decide +kernel
theorem dX4_ageRing_166 : decode cX4_ageRing 166 = .ok (.aload_n 0, 1) := by decide +kernel
theorem dX4_ageRing_167 : decode cX4_ageRing 167 = .ok (.getfield 59, 3) := by decide +kernel
theorem dX4_ageRing_170 : decode cX4_ageRing 170 = .ok (.iload_n 1, 1) := by decide +kernel
theorem dX4_ageRing_171 : decode cX4_ageRing 171 = .ok (.dup2, 1) := by decide +kernel
theorem dX4_ageRing_172 : decode cX4_ageRing 172 = .ok (.iaload, 1) := by decide +kernel
theorem dX4_ageRing_173 : decode cX4_ageRing 173 = .ok (.iconst 1, 1) := by decide +kernel
theorem dX4_ageRing_174 : decode cX4_ageRing 174 = .ok (.isub, 1) := by decide +kernel
theorem dX4_ageRing_175 : decode cX4_ageRing 175 = .ok (.iastore, 1) := by decide +kernel
theorem dX4_ageRing_176 : decode cX4_ageRing 176 = .ok (.goto 22, 3) := by decide +kernel
theorem dX4_ageRing_179 : decode cX4_ageRing 179 = .ok (.aload_n 0, 1) := by decide +kernel
theorem dX4_ageRing_180 : decode cX4_ageRing 180 = .ok (.getfield 62, 3) := by decide +kernel
theorem dX4_ageRing_183 : decode cX4_ageRing 183 = .ok (.iload_n 1, 1) := by decide +kernel
theorem dX4_ageRing_184 : decode cX4_ageRing 184 = .ok (.iaload, 1) := by decide +kernel
theorem dX4_ageRing_185 : decode cX4_ageRing 185 = .ok (.ifCond .le 13, 3) := by decide +kernel
theorem dX4_ageRing_188 : decode cX4_ageRing 188 = .ok (.aload_n 0, 1) := by decide +kernel
theorem dX4_ageRing_189 : decode cX4_ageRing 189 = .ok (.getfield 62, 3) := by decide +kernel
theorem dX4_ageRing_192 : decode cX4_ageRing 192 = .ok (.iload_n 1, 1) := by decide +kernel
theorem dX4_ageRing_193 : decode cX4_ageRing 193 = .ok (.dup2, 1) := by decide +kernel
theorem dX4_ageRing_194 : decode cX4_ageRing 194 = .ok (.iaload, 1) := by decide +kernel
theorem dX4_ageRing_195 : decode cX4_ageRing 195 = .ok (.iconst 1, 1) := by decide +kernel
theorem dX4_ageRing_196 : decode cX4_ageRing 196 = .ok (.isub, 1) := by decide +kernel
theorem dX4_ageRing_197 : decode cX4_ageRing 197 = .ok (.iastore, 1) := by decide +kernel
theorem dX4_ageRing_198 : decode cX4_ageRing 198 = .ok (.aload_n 0, 1) := by decide +kernel
theorem dX4_ageRing_199 : decode cX4_ageRing 199 = .ok (.getfield 47, 3) := by decide +kernel
theorem dX4_ageRing_202 : decode cX4_ageRing 202 = .ok (.iload_n 1, 1) := by decide +kernel
theorem dX4_ageRing_203 : decode cX4_ageRing 203 = .ok (.iaload, 1) := by decide +kernel
theorem dX4_ageRing_204 : decode cX4_ageRing 204 = .ok (.iconst 2, 1) := by decide +kernel
theorem dX4_ageRing_205 : decode cX4_ageRing 205 = .ok (.if_icmp .ne 32, 3) := by decide +kernel
theorem dX4_ageRing_208 : decode cX4_ageRing 208 = .ok (.aload_n 0, 1) := by decide +kernel
theorem dX4_ageRing_209 : decode cX4_ageRing 209 = .ok (.getfield 50, 3) := by decide +kernel
theorem dX4_ageRing_212 : decode cX4_ageRing 212 = .ok (.iload_n 1, 1) := by decide +kernel
theorem dX4_ageRing_213 : decode cX4_ageRing 213 = .ok (.iaload, 1) := by decide +kernel
theorem dX4_ageRing_214 : decode cX4_ageRing 214 = .ok (.aload_n 0, 1) := by decide +kernel
theorem dX4_ageRing_215 : decode cX4_ageRing 215 = .ok (.iload_n 2, 1) := by decide +kernel
theorem dX4_ageRing_216 : decode cX4_ageRing 216 = .ok (.iconst 3, 1) := by decide +kernel
theorem dX4_ageRing_217 : decode cX4_ageRing 217 = .ok (.invokevirtual 103, 3) := by decide +kernel
theorem dX4_ageRing_220 : decode cX4_ageRing 220 = .ok (.if_icmp .lt 17, 3) := by decide +kernel
theorem dX4_ageRing_223 : decode cX4_ageRing 223 = .ok (.aload_n 0, 1) := by decide +kernel
theorem dX4_ageRing_224 : decode cX4_ageRing 224 = .ok (.getfield 47, 3) := by decide +kernel
theorem dX4_ageRing_227 : decode cX4_ageRing 227 = .ok (.iload_n 1, 1) := by decide +kernel
theorem dX4_ageRing_228 : decode cX4_ageRing 228 = .ok (.iconst 3, 1) := by decide +kernel
theorem dX4_ageRing_229 : decode cX4_ageRing 229 = .ok (.iastore, 1) := by decide +kernel
theorem dX4_ageRing_230 : decode cX4_ageRing 230 = .ok (.aload_n 0, 1) := by decide +kernel
theorem dX4_ageRing_231 : decode cX4_ageRing 231 = .ok (.getfield 50, 3) := by decide +kernel
theorem dX4_ageRing_234 : decode cX4_ageRing 234 = .ok (.iload_n 1, 1) := by decide +kernel
theorem dX4_ageRing_235 : decode cX4_ageRing 235 = .ok (.iconst 0, 1) := by decide +kernel
theorem dX4_ageRing_236 : decode cX4_ageRing 236 = .ok (.iastore, 1) := by decide +kernel
theorem dX4_ageRing_237 : decode cX4_ageRing 237 = .ok (.aload_n 0, 1) := by decide +kernel
theorem dX4_ageRing_238 : decode cX4_ageRing 238 = .ok (.getfield 47, 3) := by decide +kernel
theorem dX4_ageRing_241 : decode cX4_ageRing 241 = .ok (.iload_n 1, 1) := by decide +kernel
theorem dX4_ageRing_242 : decode cX4_ageRing 242 = .ok (.iaload, 1) := by decide +kernel
theorem dX4_ageRing_243 : decode cX4_ageRing 243 = .ok (.iconst 3, 1) := by decide +kernel
theorem dX4_ageRing_244 : decode cX4_ageRing 244 = .ok (.if_icmp .ne 23, 3) := by decide +kernel
theorem dX4_ageRing_247 : decode cX4_ageRing 247 = .ok (.aload_n 0, 1) := by decide +kernel
theorem dX4_ageRing_248 : decode cX4_ageRing 248 = .ok (.getfield 50, 3) := by decide +kernel
theorem dX4_ageRing_251 : decode cX4_ageRing 251 = .ok (.iload_n 1, 1) := by decide +kernel
theorem dX4_ageRing_252 : decode cX4_ageRing 252 = .ok (.iaload, 1) := by decide +kernel
theorem dX4_ageRing_253 : decode cX4_ageRing 253 = .ok (.aload_n 0, 1) := by decide +kernel
theorem dX4_ageRing_254 : decode cX4_ageRing 254 = .ok (.iload_n 2, 1) := by decide +kernel
theorem dX4_ageRing_255 : decode cX4_ageRing 255 = .ok (.iconst 4, 1) := by decide +kernel
theorem dX4_ageRing_256 : decode cX4_ageRing 256 = .ok (.invokevirtual 103, 3) := by decide +kernel
theorem dX4_ageRing_259 : decode cX4_ageRing 259 = .ok (.if_icmp .lt 8, 3) := by decide +kernel
theorem dX4_ageRing_262 : decode cX4_ageRing 262 = .ok (.aload_n 0, 1) := by decide +kernel
theorem dX4_ageRing_263 : decode cX4_ageRing 263 = .ok (.iload_n 1, 1) := by decide +kernel
theorem dX4_ageRing_264 : decode cX4_ageRing 264 = .ok (.invokevirtual 106, 3) := by decide +kernel
theorem dX4_ageRing_267 : decode cX4_ageRing 267 = .ok (.return_, 1) := by decide +kernel
theorem dX4_mayEnd_0 : decode cX4_mayEnd 0 = .ok (.aload_n 0, 1) := by decide +kernel
theorem dX4_mayEnd_1 : decode cX4_mayEnd 1 = .ok (.getfield 41, 3) := by decide +kernel
theorem dX4_mayEnd_4 : decode cX4_mayEnd 4 = .ok (.iload_n 1, 1) := by decide +kernel
theorem dX4_mayEnd_5 : decode cX4_mayEnd 5 = .ok (.iaload, 1) := by decide +kernel
theorem dX4_mayEnd_6 : decode cX4_mayEnd 6 = .ok (.istore_n 2, 1) := by decide +kernel
theorem dX4_mayEnd_7 : decode cX4_mayEnd 7 = .ok (.aload_n 0, 1) := by decide +kernel
theorem dX4_mayEnd_8 : decode cX4_mayEnd 8 = .ok (.getfield 47, 3) := by decide +kernel
theorem dX4_mayEnd_11 : decode cX4_mayEnd 11 = .ok (.iload_n 1, 1) := by decide +kernel
theorem dX4_mayEnd_12 : decode cX4_mayEnd 12 = .ok (.iaload, 1) := by decide +kernel
theorem dX4_mayEnd_13 : decode cX4_mayEnd 13 = .ok (.iconst 1, 1) := by decide +kernel
theorem dX4_mayEnd_14 : decode cX4_mayEnd 14 = .ok (.if_icmp .ne 62, 3) := by decide +kernel
theorem dX4_mayEnd_17 : decode cX4_mayEnd 17 = .ok (.aload_n 0, 1) := by decide +kernel
theorem dX4_mayEnd_18 : decode cX4_mayEnd 18 = .ok (.getfield 50, 3) := by decide +kernel
theorem dX4_mayEnd_21 : decode cX4_mayEnd 21 = .ok (.iload_n 1, 1) := by decide +kernel
theorem dX4_mayEnd_22 : decode cX4_mayEnd 22 = .ok (.iaload, 1) := by decide +kernel
theorem dX4_mayEnd_23 : decode cX4_mayEnd 23 = .ok (.aload_n 0, 1) := by decide +kernel
theorem dX4_mayEnd_24 : decode cX4_mayEnd 24 = .ok (.iload_n 2, 1) := by decide +kernel
theorem dX4_mayEnd_25 : decode cX4_mayEnd 25 = .ok (.iconst 0, 1) := by decide +kernel
theorem dX4_mayEnd_26 : decode cX4_mayEnd 26 = .ok (.invokevirtual 103, 3) := by decide +kernel
theorem dX4_mayEnd_29 : decode cX4_mayEnd 29 = .ok (.if_icmp .lt 47, 3) := by decide +kernel
theorem dX4_mayEnd_32 : decode cX4_mayEnd 32 = .ok (.aload_n 0, 1) := by decide +kernel
theorem dX4_mayEnd_33 : decode cX4_mayEnd 33 = .ok (.getfield 59, 3) := by decide +kernel
theorem dX4_mayEnd_36 : decode cX4_mayEnd 36 = .ok (.iload_n 1, 1) := by decide +kernel
theorem dX4_mayEnd_37 : decode cX4_mayEnd 37 = .ok (.iaload, 1) := by decide +kernel
theorem dX4_mayEnd_38 : decode cX4_mayEnd 38 = .ok (.aload_n 0, 1) := by decide +kernel
theorem dX4_mayEnd_39 : decode cX4_mayEnd 39 = .ok (.getfield 62, 3) := by decide +kernel
theorem dX4_mayEnd_42 : decode cX4_mayEnd 42 = .ok (.iload_n 1, 1) := by decide +kernel
theorem dX4_mayEnd_43 : decode cX4_mayEnd 43 = .ok (.iaload, 1) := by decide +kernel
theorem dX4_mayEnd_44 : decode cX4_mayEnd 44 = .ok (.iadd, 1) := by decide +kernel
theorem dX4_mayEnd_45 : decode cX4_mayEnd 45 = .ok (.ifCond .ne 31, 3) := by decide +kernel
theorem dX4_mayEnd_48 : decode cX4_mayEnd 48 = .ok (.aload_n 0, 1) := by decide +kernel
theorem dX4_mayEnd_49 : decode cX4_mayEnd 49 = .ok (.getfield 53, 3) := by decide +kernel
theorem dX4_mayEnd_52 : decode cX4_mayEnd 52 = .ok (.iload_n 1, 1) := by decide +kernel
theorem dX4_mayEnd_53 : decode cX4_mayEnd 53 = .ok (.iaload, 1) := by decide +kernel
theorem dX4_mayEnd_54 : decode cX4_mayEnd 54 = .ok (.ifCond .eq 18, 3) := by decide +kernel
theorem dX4_mayEnd_57 : decode cX4_mayEnd 57 = .ok (.aload_n 0, 1) := by decide +kernel
theorem dX4_mayEnd_58 : decode cX4_mayEnd 58 = .ok (.getfield 56, 3) := by decide +kernel
theorem dX4_mayEnd_61 : decode cX4_mayEnd 61 = .ok (.iload_n 1, 1) := by decide +kernel
theorem dX4_mayEnd_62 : decode cX4_mayEnd 62 = .ok (.iaload, 1) := by decide +kernel
theorem dX4_mayEnd_63 : decode cX4_mayEnd 63 = .ok (.aload_n 0, 1) := by decide +kernel
theorem dX4_mayEnd_64 : decode cX4_mayEnd 64 = .ok (.iload_n 2, 1) := by decide +kernel
theorem dX4_mayEnd_65 : decode cX4_mayEnd 65 = .ok (.iconst 2, 1) := by decide +kernel
theorem dX4_mayEnd_66 : decode cX4_mayEnd 66 = .ok (.invokevirtual 103, 3) := by decide +kernel
theorem dX4_mayEnd_69 : decode cX4_mayEnd 69 = .ok (.if_icmp .lt 7, 3) := by decide +kernel
theorem dX4_mayEnd_72 : decode cX4_mayEnd 72 = .ok (.iconst 1, 1) := by decide +kernel
theorem dX4_mayEnd_73 : decode cX4_mayEnd 73 = .ok (.goto 4, 3) := by decide +kernel
theorem dX4_mayEnd_76 : decode cX4_mayEnd 76 = .ok (.iconst 0, 1) := by decide +kernel
theorem dX4_mayEnd_77 : decode cX4_mayEnd 77 = .ok (.ireturn, 1) := by decide +kernel
theorem dX4_goYellow_0 : decode cX4_goYellow 0 = .ok (.aload_n 0, 1) := by decide +kernel
theorem dX4_goYellow_1 : decode cX4_goYellow 1 = .ok (.getfield 47, 3) := by decide +kernel
theorem dX4_goYellow_4 : decode cX4_goYellow 4 = .ok (.iload_n 1, 1) := by decide +kernel
theorem dX4_goYellow_5 : decode cX4_goYellow 5 = .ok (.iconst 2, 1) := by decide +kernel
theorem dX4_goYellow_6 : decode cX4_goYellow 6 = .ok (.iastore, 1) := by decide +kernel
theorem dX4_goYellow_7 : decode cX4_goYellow 7 = .ok (.aload_n 0, 1) := by decide +kernel
theorem dX4_goYellow_8 : decode cX4_goYellow 8 = .ok (.getfield 50, 3) := by decide +kernel
theorem dX4_goYellow_11 : decode cX4_goYellow 11 = .ok (.iload_n 1, 1) := by decide +kernel
theorem dX4_goYellow_12 : decode cX4_goYellow 12 = .ok (.iconst 0, 1) := by decide +kernel
theorem dX4_goYellow_13 : decode cX4_goYellow 13 = .ok (.iastore, 1) := by decide +kernel
theorem dX4_goYellow_14 : decode cX4_goYellow 14 = .ok (.return_, 1) := by decide +kernel
theorem dX4_goOn_0 : decode cX4_goOn 0 = .ok (.aload_n 0, 1) := by decide +kernel
theorem dX4_goOn_1 : decode cX4_goOn 1 = .ok (.iload_n 1, 1) := by decide +kernel
theorem dX4_goOn_2 : decode cX4_goOn 2 = .ok (.invokevirtual 110, 3) := by decide +kernel
theorem dX4_goOn_5 : decode cX4_goOn 5 = .ok (.ifCond .eq 60, 3) := by decide +kernel
theorem dX4_goOn_8 : decode cX4_goOn 8 = .ok (.aload_n 0, 1) := by decide +kernel
theorem dX4_goOn_9 : decode cX4_goOn 9 = .ok (.getfield 41, 3) := by decide +kernel
theorem dX4_goOn_12 : decode cX4_goOn 12 = .ok (.iload_n 1, 1) := by decide +kernel
theorem dX4_goOn_13 : decode cX4_goOn 13 = .ok (.iaload, 1) := by decide +kernel
theorem dX4_goOn_14 : decode cX4_goOn 14 = .ok (.aload_n 0, 1) := by decide +kernel
theorem dX4_goOn_15 : decode cX4_goOn 15 = .ok (.iload_n 1, 1) := by decide +kernel
theorem dX4_goOn_16 : decode cX4_goOn 16 = .ok (.aload_n 0, 1) := by decide +kernel
theorem dX4_goOn_17 : decode cX4_goOn 17 = .ok (.getfield 113, 3) := by decide +kernel
theorem dX4_goOn_20 : decode cX4_goOn 20 = .ok (.invokevirtual 93, 3) := by decide +kernel
theorem dX4_goOn_23 : decode cX4_goOn 23 = .ok (.if_icmp .ne 82, 3) := by decide +kernel
theorem dX4_goOn_26 : decode cX4_goOn 26 = .ok (.aload_n 0, 1) := by decide +kernel
theorem dX4_goOn_27 : decode cX4_goOn 27 = .ok (.aload_n 0, 1) := by decide +kernel
theorem dX4_goOn_28 : decode cX4_goOn 28 = .ok (.iload_n 1, 1) := by decide +kernel
theorem dX4_goOn_29 : decode cX4_goOn 29 = .ok (.aload_n 0, 1) := by decide +kernel
theorem dX4_goOn_30 : decode cX4_goOn 30 = .ok (.getfield 113, 3) := by decide +kernel
theorem dX4_goOn_33 : decode cX4_goOn 33 = .ok (.invokevirtual 97, 3) := by decide +kernel
theorem dX4_goOn_36 : decode cX4_goOn 36 = .ok (.invokevirtual 100, 3) := by decide +kernel
theorem dX4_goOn_39 : decode cX4_goOn 39 = .ok (.ifCond .eq 66, 3) := by decide +kernel
theorem dX4_goOn_42 : decode cX4_goOn 42 = .ok (.aload_n 0, 1) := by decide +kernel
theorem dX4_goOn_43 : decode cX4_goOn 43 = .ok (.getfield 44, 3) := by decide +kernel
theorem dX4_goOn_46 : decode cX4_goOn 46 = .ok (.iload_n 1, 1) := by decide +kernel
theorem dX4_goOn_47 : decode cX4_goOn 47 = .ok (.aload_n 0, 1) := by decide +kernel
theorem dX4_goOn_48 : decode cX4_goOn 48 = .ok (.iload_n 1, 1) := by decide +kernel
theorem dX4_goOn_49 : decode cX4_goOn 49 = .ok (.aload_n 0, 1) := by decide +kernel
theorem dX4_goOn_50 : decode cX4_goOn 50 = .ok (.getfield 113, 3) := by decide +kernel
theorem dX4_goOn_53 : decode cX4_goOn 53 = .ok (.invokevirtual 97, 3) := by decide +kernel
theorem dX4_goOn_56 : decode cX4_goOn 56 = .ok (.iastore, 1) := by decide +kernel
theorem dX4_goOn_57 : decode cX4_goOn 57 = .ok (.aload_n 0, 1) := by decide +kernel
theorem dX4_goOn_58 : decode cX4_goOn 58 = .ok (.iload_n 1, 1) := by decide +kernel
theorem dX4_goOn_59 : decode cX4_goOn 59 = .ok (.invokevirtual 116, 3) := by decide +kernel
theorem dX4_goOn_62 : decode cX4_goOn 62 = .ok (.goto 43, 3) := by decide +kernel
theorem dX4_goOn_65 : decode cX4_goOn 65 = .ok (.aload_n 0, 1) := by decide +kernel
theorem dX4_goOn_66 : decode cX4_goOn 66 = .ok (.getfield 47, 3) := by decide +kernel
theorem dX4_goOn_69 : decode cX4_goOn 69 = .ok (.iload_n 1, 1) := by decide +kernel
theorem dX4_goOn_70 : decode cX4_goOn 70 = .ok (.iaload, 1) := by decide +kernel
theorem dX4_goOn_71 : decode cX4_goOn 71 = .ok (.ifCond .ne 34, 3) := by decide +kernel
theorem dX4_goOn_74 : decode cX4_goOn 74 = .ok (.aload_n 0, 1) := by decide +kernel
theorem dX4_goOn_75 : decode cX4_goOn 75 = .ok (.getfield 44, 3) := by decide +kernel
theorem dX4_goOn_78 : decode cX4_goOn 78 = .ok (.iload_n 1, 1) := by decide +kernel
theorem dX4_goOn_79 : decode cX4_goOn 79 = .ok (.iaload, 1) := by decide +kernel
theorem dX4_goOn_80 : decode cX4_goOn 80 = .ok (.ifCond .ge 25, 3) := by decide +kernel
theorem dX4_goOn_83 : decode cX4_goOn 83 = .ok (.aload_n 0, 1) := by decide +kernel
theorem dX4_goOn_84 : decode cX4_goOn 84 = .ok (.getfield 119, 3) := by decide +kernel
theorem dX4_goOn_87 : decode cX4_goOn 87 = .ok (.ifCond .ne 18, 3) := by decide +kernel
theorem dX4_goOn_90 : decode cX4_goOn 90 = .ok (.aload_n 0, 1) := by decide +kernel
theorem dX4_goOn_91 : decode cX4_goOn 91 = .ok (.getfield 44, 3) := by decide +kernel
theorem dX4_goOn_94 : decode cX4_goOn 94 = .ok (.iload_n 1, 1) := by decide +kernel
theorem dX4_goOn_95 : decode cX4_goOn 95 = .ok (.aload_n 0, 1) := by decide +kernel
theorem dX4_goOn_96 : decode cX4_goOn 96 = .ok (.iload_n 1, 1) := by decide +kernel
theorem dX4_goOn_97 : decode cX4_goOn 97 = .ok (.aload_n 0, 1) := by decide +kernel
theorem dX4_goOn_98 : decode cX4_goOn 98 = .ok (.getfield 113, 3) := by decide +kernel
theorem dX4_goOn_101 : decode cX4_goOn 101 = .ok (.invokevirtual 123, 3) := by decide +kernel
theorem dX4_goOn_104 : decode cX4_goOn 104 = .ok (.iastore, 1) := by decide +kernel
theorem dX4_goOn_105 : decode cX4_goOn 105 = .ok (.return_, 1) := by decide +kernel
theorem dX4_cross_0 : decode cX4_cross 0 = .ok (.aload_n 0, 1) := by decide +kernel
theorem dX4_cross_1 : decode cX4_cross 1 = .ok (.iconst 0, 1) := by decide +kernel
theorem dX4_cross_2 : decode cX4_cross 2 = .ok (.iconst 1, 1) := by decide +kernel
theorem dX4_cross_3 : decode cX4_cross 3 = .ok (.aload_n 0, 1) := by decide +kernel
theorem dX4_cross_4 : decode cX4_cross 4 = .ok (.getfield 113, 3) := by decide +kernel
theorem dX4_cross_7 : decode cX4_cross 7 = .ok (.isub, 1) := by decide +kernel
theorem dX4_cross_8 : decode cX4_cross 8 = .ok (.invokevirtual 123, 3) := by decide +kernel
theorem dX4_cross_11 : decode cX4_cross 11 = .ok (.ifCond .ge 17, 3) := by decide +kernel
theorem dX4_cross_14 : decode cX4_cross 14 = .ok (.aload_n 0, 1) := by decide +kernel
theorem dX4_cross_15 : decode cX4_cross 15 = .ok (.iconst 1, 1) := by decide +kernel
theorem dX4_cross_16 : decode cX4_cross 16 = .ok (.iconst 1, 1) := by decide +kernel
theorem dX4_cross_17 : decode cX4_cross 17 = .ok (.aload_n 0, 1) := by decide +kernel
theorem dX4_cross_18 : decode cX4_cross 18 = .ok (.getfield 113, 3) := by decide +kernel
theorem dX4_cross_21 : decode cX4_cross 21 = .ok (.isub, 1) := by decide +kernel
theorem dX4_cross_22 : decode cX4_cross 22 = .ok (.invokevirtual 123, 3) := by decide +kernel
theorem dX4_cross_25 : decode cX4_cross 25 = .ok (.ifCond .lt 7, 3) := by decide +kernel
theorem dX4_cross_28 : decode cX4_cross 28 = .ok (.iconst 1, 1) := by decide +kernel
theorem dX4_cross_29 : decode cX4_cross 29 = .ok (.goto 4, 3) := by decide +kernel
theorem dX4_cross_32 : decode cX4_cross 32 = .ok (.iconst 0, 1) := by decide +kernel
theorem dX4_cross_33 : decode cX4_cross 33 = .ok (.istore_n 1, 1) := by decide +kernel
theorem dX4_cross_34 : decode cX4_cross 34 = .ok (.iconst 1, 1) := by decide +kernel
theorem dX4_cross_35 : decode cX4_cross 35 = .ok (.istore_n 2, 1) := by decide +kernel
theorem dX4_cross_36 : decode cX4_cross 36 = .ok (.iconst 0, 1) := by decide +kernel
theorem dX4_cross_37 : decode cX4_cross 37 = .ok (.istore_n 3, 1) := by decide +kernel
theorem dX4_cross_38 : decode cX4_cross 38 = .ok (.iload_n 3, 1) := by decide +kernel
theorem dX4_cross_39 : decode cX4_cross 39 = .ok (.iconst 2, 1) := by decide +kernel
theorem dX4_cross_40 : decode cX4_cross 40 = .ok (.if_icmp .ge 111, 3) := by decide +kernel
theorem dX4_cross_43 : decode cX4_cross 43 = .ok (.iload_n 1, 1) := by decide +kernel
theorem dX4_cross_44 : decode cX4_cross 44 = .ok (.ifCond .ne 65, 3) := by decide +kernel
theorem dX4_cross_47 : decode cX4_cross 47 = .ok (.aload_n 0, 1) := by decide +kernel
theorem dX4_cross_48 : decode cX4_cross 48 = .ok (.iload_n 3, 1) := by decide +kernel
theorem dX4_cross_49 : decode cX4_cross 49 = .ok (.invokevirtual 110, 3) := by decide +kernel
theorem dX4_cross_52 : decode cX4_cross 52 = .ok (.ifCond .eq 57, 3) := by decide +kernel
theorem dX4_cross_55 : decode cX4_cross 55 = .ok (.aload_n 0, 1) := by decide +kernel
theorem dX4_cross_56 : decode cX4_cross 56 = .ok (.getfield 41, 3) := by decide +kernel
theorem dX4_cross_59 : decode cX4_cross 59 = .ok (.iload_n 3, 1) := by decide +kernel
theorem dX4_cross_60 : decode cX4_cross 60 = .ok (.iaload, 1) := by decide +kernel
theorem dX4_cross_61 : decode cX4_cross 61 = .ok (.aload_n 0, 1) := by decide +kernel
theorem dX4_cross_62 : decode cX4_cross 62 = .ok (.iload_n 3, 1) := by decide +kernel
theorem dX4_cross_63 : decode cX4_cross 63 = .ok (.aload_n 0, 1) := by decide +kernel
theorem dX4_cross_64 : decode cX4_cross 64 = .ok (.getfield 113, 3) := by decide +kernel
theorem dX4_cross_67 : decode cX4_cross 67 = .ok (.invokevirtual 97, 3) := by decide +kernel
theorem dX4_cross_70 : decode cX4_cross 70 = .ok (.if_icmp .ne 39, 3) := by decide +kernel
theorem dX4_cross_73 : decode cX4_cross 73 = .ok (.aload_n 0, 1) := by decide +kernel
theorem dX4_cross_74 : decode cX4_cross 74 = .ok (.aload_n 0, 1) := by decide +kernel
theorem dX4_cross_75 : decode cX4_cross 75 = .ok (.iload_n 3, 1) := by decide +kernel
theorem dX4_cross_76 : decode cX4_cross 76 = .ok (.aload_n 0, 1) := by decide +kernel
theorem dX4_cross_77 : decode cX4_cross 77 = .ok (.getfield 113, 3) := by decide +kernel
theorem dX4_cross_80 : decode cX4_cross 80 = .ok (.invokevirtual 93, 3) := by decide +kernel
theorem dX4_cross_83 : decode cX4_cross 83 = .ok (.invokevirtual 100, 3) := by decide +kernel
theorem dX4_cross_86 : decode cX4_cross 86 = .ok (.ifCond .eq 23, 3) := by decide +kernel
theorem dX4_cross_89 : decode cX4_cross 89 = .ok (.aload_n 0, 1) := by decide +kernel
theorem dX4_cross_90 : decode cX4_cross 90 = .ok (.getfield 44, 3) := by decide +kernel
theorem dX4_cross_93 : decode cX4_cross 93 = .ok (.iload_n 3, 1) := by decide +kernel
theorem dX4_cross_94 : decode cX4_cross 94 = .ok (.aload_n 0, 1) := by decide +kernel
theorem dX4_cross_95 : decode cX4_cross 95 = .ok (.iload_n 3, 1) := by decide +kernel
theorem dX4_cross_96 : decode cX4_cross 96 = .ok (.aload_n 0, 1) := by decide +kernel
theorem dX4_cross_97 : decode cX4_cross 97 = .ok (.getfield 113, 3) := by decide +kernel
theorem dX4_cross_100 : decode cX4_cross 100 = .ok (.invokevirtual 93, 3) := by decide +kernel
theorem dX4_cross_103 : decode cX4_cross 103 = .ok (.iastore, 1) := by decide +kernel
theorem dX4_cross_104 : decode cX4_cross 104 = .ok (.aload_n 0, 1) := by decide +kernel
theorem dX4_cross_105 : decode cX4_cross 105 = .ok (.iload_n 3, 1) := by decide +kernel
theorem dX4_cross_106 : decode cX4_cross 106 = .ok (.invokevirtual 116, 3) := by decide +kernel
theorem dX4_cross_109 : decode cX4_cross 109 = .ok (.iload_n 2, 1) := by decide +kernel
theorem dX4_cross_110 : decode cX4_cross 110 = .ok (.ifCond .eq 33, 3) := by decide +kernel
theorem dX4_cross_113 : decode cX4_cross 113 = .ok (.aload_n 0, 1) := by decide +kernel
theorem dX4_cross_114 : decode cX4_cross 114 = .ok (.iload_n 3, 1) := by decide +kernel
theorem dX4_cross_115 : decode cX4_cross 115 = .ok (.invokevirtual 110, 3) := by decide +kernel
theorem dX4_cross_118 : decode cX4_cross 118 = .ok (.ifCond .ne 21, 3) := by decide +kernel
theorem dX4_cross_121 : decode cX4_cross 121 = .ok (.aload_n 0, 1) := by decide +kernel
theorem dX4_cross_122 : decode cX4_cross 122 = .ok (.getfield 47, 3) := by decide +kernel
theorem dX4_cross_125 : decode cX4_cross 125 = .ok (.iload_n 3, 1) := by decide +kernel
theorem dX4_cross_126 : decode cX4_cross 126 = .ok (.iaload, 1) := by decide +kernel
theorem dX4_cross_127 : decode cX4_cross 127 = .ok (.ifCond .ne 16, 3) := by decide +kernel
theorem dX4_cross_130 : decode cX4_cross 130 = .ok (.aload_n 0, 1) := by decide +kernel
theorem dX4_cross_131 : decode cX4_cross 131 = .ok (.getfield 44, 3) := by decide +kernel
theorem dX4_cross_134 : decode cX4_cross 134 = .ok (.iload_n 3, 1) := by decide +kernel
theorem dX4_cross_135 : decode cX4_cross 135 = .ok (.iaload, 1) := by decide +kernel
theorem dX4_cross_136 : decode cX4_cross 136 = .ok (.ifCond .ge 7, 3) := by decide +kernel
theorem dX4_cross_139 : decode cX4_cross 139 = .ok (.iconst 1, 1) := by decide +kernel
theorem dX4_cross_140 : decode cX4_cross 140 = .ok (.goto 4, 3) := by decide +kernel
theorem dX4_cross_143 : decode cX4_cross 143 = .ok (.iconst 0, 1) := by decide +kernel
theorem dX4_cross_144 : decode cX4_cross 144 = .ok (.istore_n 2, 1) := by decide +kernel
theorem dX4_cross_145 : decode cX4_cross 145 = .ok (.iinc 3 1, 3) := by decide +kernel
theorem dX4_cross_148 : decode cX4_cross 148 = .ok (.goto (-110), 3) := by decide +kernel
theorem dX4_cross_151 : decode cX4_cross 151 = .ok (.iload_n 1, 1) := by decide +kernel
theorem dX4_cross_152 : decode cX4_cross 152 = .ok (.ifCond .eq 57, 3) := by decide +kernel
theorem dX4_cross_155 : decode cX4_cross 155 = .ok (.aload_n 0, 1) := by decide +kernel
theorem dX4_cross_156 : decode cX4_cross 156 = .ok (.getfield 119, 3) := by decide +kernel
theorem dX4_cross_159 : decode cX4_cross 159 = .ok (.ifCond .ne 50, 3) := by decide +kernel
theorem dX4_cross_162 : decode cX4_cross 162 = .ok (.iload_n 2, 1) := by decide +kernel
theorem dX4_cross_163 : decode cX4_cross 163 = .ok (.ifCond .eq 46, 3) := by decide +kernel
theorem dX4_cross_166 : decode cX4_cross 166 = .ok (.aload_n 0, 1) := by decide +kernel
theorem dX4_cross_167 : decode cX4_cross 167 = .ok (.iconst 1, 1) := by decide +kernel
theorem dX4_cross_168 : decode cX4_cross 168 = .ok (.putfield 119, 3) := by decide +kernel
theorem dX4_cross_171 : decode cX4_cross 171 = .ok (.aload_n 0, 1) := by decide +kernel
theorem dX4_cross_172 : decode cX4_cross 172 = .ok (.dup, 1) := by decide +kernel
theorem dX4_cross_173 : decode cX4_cross 173 = .ok (.getfield 126, 3) := by decide +kernel
theorem dX4_cross_176 : decode cX4_cross 176 = .ok (.iconst 1, 1) := by decide +kernel
theorem dX4_cross_177 : decode cX4_cross 177 = .ok (.iadd, 1) := by decide +kernel
theorem dX4_cross_178 : decode cX4_cross 178 = .ok (.putfield 126, 3) := by decide +kernel
theorem dX4_cross_181 : decode cX4_cross 181 = .ok (.iconst 0, 1) := by decide +kernel
theorem dX4_cross_182 : decode cX4_cross 182 = .ok (.istore_n 3, 1) := by decide +kernel
theorem dX4_cross_183 : decode cX4_cross 183 = .ok (.iload_n 3, 1) := by decide +kernel
theorem dX4_cross_184 : decode cX4_cross 184 = .ok (.iconst 2, 1) := by decide +kernel
theorem dX4_cross_185 : decode cX4_cross 185 = .ok (.if_icmp .ge 24, 3) := by decide +kernel
theorem dX4_cross_188 : decode cX4_cross 188 = .ok (.aload_n 0, 1) := by decide +kernel
theorem dX4_cross_189 : decode cX4_cross 189 = .ok (.getfield 47, 3) := by decide +kernel
theorem dX4_cross_192 : decode cX4_cross 192 = .ok (.iload_n 3, 1) := by decide +kernel
theorem dX4_cross_193 : decode cX4_cross 193 = .ok (.iaload, 1) := by decide +kernel
theorem dX4_cross_194 : decode cX4_cross 194 = .ok (.iconst 1, 1) := by decide +kernel
theorem dX4_cross_195 : decode cX4_cross 195 = .ok (.if_icmp .ne 8, 3) := by decide +kernel
theorem dX4_cross_198 : decode cX4_cross 198 = .ok (.aload_n 0, 1) := by decide +kernel
theorem dX4_cross_199 : decode cX4_cross 199 = .ok (.iload_n 3, 1) := by decide +kernel
theorem dX4_cross_200 : decode cX4_cross 200 = .ok (.invokevirtual 116, 3) := by decide +kernel
theorem dX4_cross_203 : decode cX4_cross 203 = .ok (.iinc 3 1, 3) := by decide +kernel
theorem dX4_cross_206 : decode cX4_cross 206 = .ok (.goto (-23), 3) := by decide +kernel
theorem dX4_cross_209 : decode cX4_cross 209 = .ok (.return_, 1) := by decide +kernel
theorem dX4_comesAlong_0 : decode cX4_comesAlong 0 = .ok (.aload_n 0, 1) := by decide +kernel
theorem dX4_comesAlong_1 : decode cX4_comesAlong 1 = .ok (.iload_n 1, 1) := by decide +kernel
theorem dX4_comesAlong_2 : decode cX4_comesAlong 2 = .ok (.iconst 1, 1) := by decide +kernel
theorem dX4_comesAlong_3 : decode cX4_comesAlong 3 = .ok (.invokevirtual 75, 3) := by decide +kernel
theorem dX4_comesAlong_6 : decode cX4_comesAlong 6 = .ok (.ifCond .eq 17, 3) := by decide +kernel
theorem dX4_comesAlong_9 : decode cX4_comesAlong 9 = .ok (.aload_n 0, 1) := by decide +kernel
theorem dX4_comesAlong_10 : decode cX4_comesAlong 10 = .ok (.iload_n 1, 1) := by decide +kernel
theorem dX4_comesAlong_11 : decode cX4_comesAlong 11 = .ok (.bipush 32, 2) := by decide +kernel
theorem dX4_comesAlong_13 : decode cX4_comesAlong 13 = .ok (.invokevirtual 75, 3) := by decide +kernel
theorem dX4_comesAlong_16 : decode cX4_comesAlong 16 = .ok (.ifCond .eq 7, 3) := by decide +kernel
theorem dX4_comesAlong_19 : decode cX4_comesAlong 19 = .ok (.iconst 1, 1) := by decide +kernel
theorem dX4_comesAlong_20 : decode cX4_comesAlong 20 = .ok (.goto 4, 3) := by decide +kernel
theorem dX4_comesAlong_23 : decode cX4_comesAlong 23 = .ok (.iconst 0, 1) := by decide +kernel
theorem dX4_comesAlong_24 : decode cX4_comesAlong 24 = .ok (.ireturn, 1) := by decide +kernel
theorem dX4_begin_0 : decode cX4_begin 0 = .ok (.aload_n 0, 1) := by decide +kernel
theorem dX4_begin_1 : decode cX4_begin 1 = .ok (.getfield 44, 3) := by decide +kernel
theorem dX4_begin_4 : decode cX4_begin 4 = .ok (.iload_n 1, 1) := by decide +kernel
theorem dX4_begin_5 : decode cX4_begin 5 = .ok (.iaload, 1) := by decide +kernel
theorem dX4_begin_6 : decode cX4_begin 6 = .ok (.istore_n 2, 1) := by decide +kernel
theorem dX4_begin_7 : decode cX4_begin 7 = .ok (.aload_n 0, 1) := by decide +kernel
theorem dX4_begin_8 : decode cX4_begin 8 = .ok (.getfield 41, 3) := by decide +kernel
theorem dX4_begin_11 : decode cX4_begin 11 = .ok (.iload_n 1, 1) := by decide +kernel
theorem dX4_begin_12 : decode cX4_begin 12 = .ok (.iload_n 2, 1) := by decide +kernel
theorem dX4_begin_13 : decode cX4_begin 13 = .ok (.iastore, 1) := by decide +kernel
theorem dX4_begin_14 : decode cX4_begin 14 = .ok (.aload_n 0, 1) := by decide +kernel
theorem dX4_begin_15 : decode cX4_begin 15 = .ok (.getfield 44, 3) := by decide +kernel
theorem dX4_begin_18 : decode cX4_begin 18 = .ok (.iload_n 1, 1) := by decide +kernel
theorem dX4_begin_19 : decode cX4_begin 19 = .ok (.iconst (-1), 1) := by decide +kernel
theorem dX4_begin_20 : decode cX4_begin 20 = .ok (.iastore, 1) := by decide +kernel
theorem dX4_begin_21 : decode cX4_begin 21 = .ok (.aload_n 0, 1) := by decide +kernel
theorem dX4_begin_22 : decode cX4_begin 22 = .ok (.getfield 47, 3) := by decide +kernel
theorem dX4_begin_25 : decode cX4_begin 25 = .ok (.iload_n 1, 1) := by decide +kernel
theorem dX4_begin_26 : decode cX4_begin 26 = .ok (.iconst 1, 1) := by decide +kernel
theorem dX4_begin_27 : decode cX4_begin 27 = .ok (.iastore, 1) := by decide +kernel
theorem dX4_begin_28 : decode cX4_begin 28 = .ok (.aload_n 0, 1) := by decide +kernel
theorem dX4_begin_29 : decode cX4_begin 29 = .ok (.getfield 50, 3) := by decide +kernel
theorem dX4_begin_32 : decode cX4_begin 32 = .ok (.iload_n 1, 1) := by decide +kernel
theorem dX4_begin_33 : decode cX4_begin 33 = .ok (.iconst 0, 1) := by decide +kernel
theorem dX4_begin_34 : decode cX4_begin 34 = .ok (.iastore, 1) := by decide +kernel
theorem dX4_begin_35 : decode cX4_begin 35 = .ok (.aload_n 0, 1) := by decide +kernel
theorem dX4_begin_36 : decode cX4_begin 36 = .ok (.getfield 53, 3) := by decide +kernel
theorem dX4_begin_39 : decode cX4_begin 39 = .ok (.iload_n 1, 1) := by decide +kernel
theorem dX4_begin_40 : decode cX4_begin 40 = .ok (.aload_n 0, 1) := by decide +kernel
theorem dX4_begin_41 : decode cX4_begin 41 = .ok (.iload_n 2, 1) := by decide +kernel
theorem dX4_begin_42 : decode cX4_begin 42 = .ok (.iconst 1, 1) := by decide +kernel
theorem dX4_begin_43 : decode cX4_begin 43 = .ok (.invokevirtual 103, 3) := by decide +kernel
theorem dX4_begin_46 : decode cX4_begin 46 = .ok (.iastore, 1) := by decide +kernel
theorem dX4_begin_47 : decode cX4_begin 47 = .ok (.aload_n 0, 1) := by decide +kernel
theorem dX4_begin_48 : decode cX4_begin 48 = .ok (.getfield 56, 3) := by decide +kernel
theorem dX4_begin_51 : decode cX4_begin 51 = .ok (.iload_n 1, 1) := by decide +kernel
theorem dX4_begin_52 : decode cX4_begin 52 = .ok (.iconst 0, 1) := by decide +kernel
theorem dX4_begin_53 : decode cX4_begin 53 = .ok (.iastore, 1) := by decide +kernel
theorem dX4_begin_54 : decode cX4_begin 54 = .ok (.aload_n 0, 1) := by decide +kernel
theorem dX4_begin_55 : decode cX4_begin 55 = .ok (.getfield 23, 3) := by decide +kernel
theorem dX4_begin_58 : decode cX4_begin 58 = .ok (.iload_n 2, 1) := by decide +kernel
theorem dX4_begin_59 : decode cX4_begin 59 = .ok (.iconst 0, 1) := by decide +kernel
theorem dX4_begin_60 : decode cX4_begin 60 = .ok (.bastore, 1) := by decide +kernel
theorem dX4_begin_61 : decode cX4_begin 61 = .ok (.aload_n 0, 1) := by decide +kernel
theorem dX4_begin_62 : decode cX4_begin 62 = .ok (.getfield 32, 3) := by decide +kernel
theorem dX4_begin_65 : decode cX4_begin 65 = .ok (.iload_n 2, 1) := by decide +kernel
theorem dX4_begin_66 : decode cX4_begin 66 = .ok (.dup2, 1) := by decide +kernel
theorem dX4_begin_67 : decode cX4_begin 67 = .ok (.iaload, 1) := by decide +kernel
theorem dX4_begin_68 : decode cX4_begin 68 = .ok (.iconst 1, 1) := by decide +kernel
theorem dX4_begin_69 : decode cX4_begin 69 = .ok (.iadd, 1) := by decide +kernel
theorem dX4_begin_70 : decode cX4_begin 70 = .ok (.iastore, 1) := by decide +kernel
theorem dX4_begin_71 : decode cX4_begin 71 = .ok (.aload_n 0, 1) := by decide +kernel
theorem dX4_begin_72 : decode cX4_begin 72 = .ok (.getfield 20, 3) := by decide +kernel
theorem dX4_begin_75 : decode cX4_begin 75 = .ok (.iload_n 2, 1) := by decide +kernel
theorem dX4_begin_76 : decode cX4_begin 76 = .ok (.baload, 1) := by decide +kernel
theorem dX4_begin_77 : decode cX4_begin 77 = .ok (.ifCond .ne 13, 3) := by decide +kernel
theorem dX4_begin_80 : decode cX4_begin 80 = .ok (.aload_n 0, 1) := by decide +kernel
theorem dX4_begin_81 : decode cX4_begin 81 = .ok (.iload_n 2, 1) := by decide +kernel
theorem dX4_begin_82 : decode cX4_begin 82 = .ok (.bipush 16, 2) := by decide +kernel
theorem dX4_begin_84 : decode cX4_begin 84 = .ok (.invokevirtual 75, 3) := by decide +kernel
theorem dX4_begin_87 : decode cX4_begin 87 = .ok (.ifCond .eq 16, 3) := by decide +kernel
theorem dX4_begin_90 : decode cX4_begin 90 = .ok (.aload_n 0, 1) := by decide +kernel
theorem dX4_begin_91 : decode cX4_begin 91 = .ok (.iload_n 2, 1) := by decide +kernel
theorem dX4_begin_92 : decode cX4_begin 92 = .ok (.iconst 5, 1) := by decide +kernel
theorem dX4_begin_93 : decode cX4_begin 93 = .ok (.invokevirtual 103, 3) := by decide +kernel
theorem dX4_begin_96 : decode cX4_begin 96 = .ok (.ifCond .le 7, 3) := by decide +kernel
theorem dX4_begin_99 : decode cX4_begin 99 = .ok (.iconst 1, 1) := by decide +kernel
theorem dX4_begin_100 : decode cX4_begin 100 = .ok (.goto 4, 3) := by decide +kernel
theorem dX4_begin_103 : decode cX4_begin 103 = .ok (.iconst 0, 1) := by decide +kernel
theorem dX4_begin_104 : decode cX4_begin 104 = .ok (.istore_n 3, 1) := by decide +kernel
theorem dX4_begin_105 : decode cX4_begin 105 = .ok (.aload_n 0, 1) := by decide +kernel
theorem dX4_begin_106 : decode cX4_begin 106 = .ok (.getfield 59, 3) := by decide +kernel
theorem dX4_begin_109 : decode cX4_begin 109 = .ok (.iload_n 1, 1) := by decide +kernel
theorem dX4_begin_110 : decode cX4_begin 110 = .ok (.iload_n 3, 1) := by decide +kernel
theorem dX4_begin_111 : decode cX4_begin 111 = .ok (.ifCond .eq 12, 3) := by decide +kernel
theorem dX4_begin_114 : decode cX4_begin 114 = .ok (.aload_n 0, 1) := by decide +kernel
theorem dX4_begin_115 : decode cX4_begin 115 = .ok (.iload_n 2, 1) := by decide +kernel
theorem dX4_begin_116 : decode cX4_begin 116 = .ok (.iconst 5, 1) := by decide +kernel
theorem dX4_begin_117 : decode cX4_begin 117 = .ok (.invokevirtual 103, 3) := by decide +kernel
theorem dX4_begin_120 : decode cX4_begin 120 = .ok (.goto 4, 3) := by decide +kernel
theorem dX4_begin_123 : decode cX4_begin 123 = .ok (.iconst 0, 1) := by decide +kernel
theorem dX4_begin_124 : decode cX4_begin 124 = .ok (.iastore, 1) := by decide +kernel
theorem dX4_begin_125 : decode cX4_begin 125 = .ok (.aload_n 0, 1) := by decide +kernel
theorem dX4_begin_126 : decode cX4_begin 126 = .ok (.getfield 62, 3) := by decide +kernel
theorem dX4_begin_129 : decode cX4_begin 129 = .ok (.iload_n 1, 1) := by decide +kernel
theorem dX4_begin_130 : decode cX4_begin 130 = .ok (.iload_n 3, 1) := by decide +kernel
theorem dX4_begin_131 : decode cX4_begin 131 = .ok (.ifCond .eq 13, 3) := by decide +kernel
theorem dX4_begin_134 : decode cX4_begin 134 = .ok (.aload_n 0, 1) := by decide +kernel
theorem dX4_begin_135 : decode cX4_begin 135 = .ok (.iload_n 2, 1) := by decide +kernel
theorem dX4_begin_136 : decode cX4_begin 136 = .ok (.bipush 6, 2) := by decide +kernel
theorem dX4_begin_138 : decode cX4_begin 138 = .ok (.invokevirtual 103, 3) := by decide +kernel
theorem dX4_begin_141 : decode cX4_begin 141 = .ok (.goto 4, 3) := by decide +kernel
theorem dX4_begin_144 : decode cX4_begin 144 = .ok (.iconst 0, 1) := by decide +kernel
theorem dX4_begin_145 : decode cX4_begin 145 = .ok (.iastore, 1) := by decide +kernel
theorem dX4_begin_146 : decode cX4_begin 146 = .ok (.aload_n 0, 1) := by decide +kernel
theorem dX4_begin_147 : decode cX4_begin 147 = .ok (.getfield 20, 3) := by decide +kernel
theorem dX4_begin_150 : decode cX4_begin 150 = .ok (.iload_n 2, 1) := by decide +kernel
theorem dX4_begin_151 : decode cX4_begin 151 = .ok (.iconst 0, 1) := by decide +kernel
theorem dX4_begin_152 : decode cX4_begin 152 = .ok (.bastore, 1) := by decide +kernel
theorem dX4_begin_153 : decode cX4_begin 153 = .ok (.return_, 1) := by decide +kernel
theorem dX4_tick_0 : decode cX4_tick 0 = .ok (.aload_n 0, 1) := by decide +kernel
theorem dX4_tick_1 : decode cX4_tick 1 = .ok (.invokevirtual 129, 3) := by decide +kernel
theorem dX4_tick_4 : decode cX4_tick 4 = .ok (.iconst 0, 1) := by decide +kernel
theorem dX4_tick_5 : decode cX4_tick 5 = .ok (.istore_n 1, 1) := by decide +kernel
theorem dX4_tick_6 : decode cX4_tick 6 = .ok (.iload_n 1, 1) := by decide +kernel
theorem dX4_tick_7 : decode cX4_tick 7 = .ok (.iconst 2, 1) := by decide +kernel
theorem dX4_tick_8 : decode cX4_tick 8 = .ok (.if_icmp .ge 14, 3) := by decide +kernel
theorem dX4_tick_11 : decode cX4_tick 11 = .ok (.aload_n 0, 1) := by decide +kernel
theorem dX4_tick_12 : decode cX4_tick 12 = .ok (.iload_n 1, 1) := by decide +kernel
theorem dX4_tick_13 : decode cX4_tick 13 = .ok (.invokevirtual 132, 3) := by decide +kernel
theorem dX4_tick_16 : decode cX4_tick 16 = .ok (.iinc 1 1, 3) := by decide +kernel
theorem dX4_tick_19 : decode cX4_tick 19 = .ok (.goto (-13), 3) := by decide +kernel
theorem dX4_tick_22 : decode cX4_tick 22 = .ok (.iconst 0, 1) := by decide +kernel
theorem dX4_tick_23 : decode cX4_tick 23 = .ok (.istore_n 1, 1) := by decide +kernel
theorem dX4_tick_24 : decode cX4_tick 24 = .ok (.iload_n 1, 1) := by decide +kernel
theorem dX4_tick_25 : decode cX4_tick 25 = .ok (.iconst 2, 1) := by decide +kernel
theorem dX4_tick_26 : decode cX4_tick 26 = .ok (.if_icmp .ge 14, 3) := by decide +kernel
theorem dX4_tick_29 : decode cX4_tick 29 = .ok (.aload_n 0, 1) := by decide +kernel
theorem dX4_tick_30 : decode cX4_tick 30 = .ok (.iload_n 1, 1) := by decide +kernel
theorem dX4_tick_31 : decode cX4_tick 31 = .ok (.invokevirtual 135, 3) := by decide +kernel
theorem dX4_tick_34 : decode cX4_tick 34 = .ok (.iinc 1 1, 3) := by decide +kernel
theorem dX4_tick_37 : decode cX4_tick 37 = .ok (.goto (-13), 3) := by decide +kernel
theorem dX4_tick_40 : decode cX4_tick 40 = .ok (.aload_n 0, 1) := by decide +kernel
theorem dX4_tick_41 : decode cX4_tick 41 = .ok (.invokevirtual 138, 3) := by decide +kernel
theorem dX4_tick_44 : decode cX4_tick 44 = .ok (.aload_n 0, 1) := by decide +kernel
theorem dX4_tick_45 : decode cX4_tick 45 = .ok (.getfield 119, 3) := by decide +kernel
theorem dX4_tick_48 : decode cX4_tick 48 = .ok (.ifCond .eq 121, 3) := by decide +kernel
theorem dX4_tick_51 : decode cX4_tick 51 = .ok (.aload_n 0, 1) := by decide +kernel
theorem dX4_tick_52 : decode cX4_tick 52 = .ok (.getfield 47, 3) := by decide +kernel
theorem dX4_tick_55 : decode cX4_tick 55 = .ok (.iconst 0, 1) := by decide +kernel
theorem dX4_tick_56 : decode cX4_tick 56 = .ok (.iaload, 1) := by decide +kernel
theorem dX4_tick_57 : decode cX4_tick 57 = .ok (.ifCond .ne 112, 3) := by decide +kernel
theorem dX4_tick_60 : decode cX4_tick 60 = .ok (.aload_n 0, 1) := by decide +kernel
theorem dX4_tick_61 : decode cX4_tick 61 = .ok (.getfield 47, 3) := by decide +kernel
theorem dX4_tick_64 : decode cX4_tick 64 = .ok (.iconst 1, 1) := by decide +kernel
theorem dX4_tick_65 : decode cX4_tick 65 = .ok (.iaload, 1) := by decide +kernel
theorem dX4_tick_66 : decode cX4_tick 66 = .ok (.ifCond .ne 103, 3) := by decide +kernel
theorem dX4_tick_69 : decode cX4_tick 69 = .ok (.aload_n 0, 1) := by decide +kernel
theorem dX4_tick_70 : decode cX4_tick 70 = .ok (.iconst 0, 1) := by decide +kernel
theorem dX4_tick_71 : decode cX4_tick 71 = .ok (.putfield 119, 3) := by decide +kernel
theorem dX4_tick_74 : decode cX4_tick 74 = .ok (.aload_n 0, 1) := by decide +kernel
theorem dX4_tick_75 : decode cX4_tick 75 = .ok (.iconst 1, 1) := by decide +kernel
theorem dX4_tick_76 : decode cX4_tick 76 = .ok (.aload_n 0, 1) := by decide +kernel
theorem dX4_tick_77 : decode cX4_tick 77 = .ok (.getfield 113, 3) := by decide +kernel
theorem dX4_tick_80 : decode cX4_tick 80 = .ok (.isub, 1) := by decide +kernel
theorem dX4_tick_81 : decode cX4_tick 81 = .ok (.putfield 113, 3) := by decide +kernel
theorem dX4_tick_84 : decode cX4_tick 84 = .ok (.iconst 0, 1) := by decide +kernel
theorem dX4_tick_85 : decode cX4_tick 85 = .ok (.istore_n 1, 1) := by decide +kernel
theorem dX4_tick_86 : decode cX4_tick 86 = .ok (.iload_n 1, 1) := by decide +kernel
theorem dX4_tick_87 : decode cX4_tick 87 = .ok (.iconst 2, 1) := by decide +kernel
theorem dX4_tick_88 : decode cX4_tick 88 = .ok (.if_icmp .ge 81, 3) := by decide +kernel
theorem dX4_tick_91 : decode cX4_tick 91 = .ok (.aload_n 0, 1) := by decide +kernel
theorem dX4_tick_92 : decode cX4_tick 92 = .ok (.iload_n 1, 1) := by decide +kernel
theorem dX4_tick_93 : decode cX4_tick 93 = .ok (.aload_n 0, 1) := by decide +kernel
theorem dX4_tick_94 : decode cX4_tick 94 = .ok (.getfield 113, 3) := by decide +kernel
theorem dX4_tick_97 : decode cX4_tick 97 = .ok (.invokevirtual 123, 3) := by decide +kernel
theorem dX4_tick_100 : decode cX4_tick 100 = .ok (.istore_n 2, 1) := by decide +kernel
theorem dX4_tick_101 : decode cX4_tick 101 = .ok (.aload_n 0, 1) := by decide +kernel
theorem dX4_tick_102 : decode cX4_tick 102 = .ok (.iload_n 1, 1) := by decide +kernel
theorem dX4_tick_103 : decode cX4_tick 103 = .ok (.aload_n 0, 1) := by decide +kernel
theorem dX4_tick_104 : decode cX4_tick 104 = .ok (.getfield 113, 3) := by decide +kernel
theorem dX4_tick_107 : decode cX4_tick 107 = .ok (.invokevirtual 93, 3) := by decide +kernel
theorem dX4_tick_110 : decode cX4_tick 110 = .ok (.istore_n 3, 1) := by decide +kernel
theorem dX4_tick_111 : decode cX4_tick 111 = .ok (.aload_n 0, 1) := by decide +kernel
theorem dX4_tick_112 : decode cX4_tick 112 = .ok (.iload_n 1, 1) := by decide +kernel
theorem dX4_tick_113 : decode cX4_tick 113 = .ok (.aload_n 0, 1) := by decide +kernel
theorem dX4_tick_114 : decode cX4_tick 114 = .ok (.getfield 113, 3) := by decide +kernel
theorem dX4_tick_117 : decode cX4_tick 117 = .ok (.invokevirtual 97, 3) := by decide +kernel
theorem dX4_tick_120 : decode cX4_tick 120 = .ok (.istore 4, 2) := by decide +kernel
theorem dX4_tick_122 : decode cX4_tick 122 = .ok (.aload_n 0, 1) := by decide +kernel
theorem dX4_tick_123 : decode cX4_tick 123 = .ok (.getfield 44, 3) := by decide +kernel
theorem dX4_tick_126 : decode cX4_tick 126 = .ok (.iload_n 1, 1) := by decide +kernel
theorem dX4_tick_127 : decode cX4_tick 127 = .ok (.iload_n 2, 1) := by decide +kernel
theorem dX4_tick_128 : decode cX4_tick 128 = .ok (.ifCond .lt 7, 3) := by decide +kernel
theorem dX4_tick_131 : decode cX4_tick 131 = .ok (.iload_n 2, 1) := by decide +kernel
theorem dX4_tick_132 : decode cX4_tick 132 = .ok (.goto 30, 3) := by decide +kernel
theorem dX4_tick_135 : decode cX4_tick 135 = .ok (.aload_n 0, 1) := by decide +kernel
theorem dX4_tick_136 : decode cX4_tick 136 = .ok (.iload_n 3, 1) := by decide +kernel
theorem dX4_tick_137 : decode cX4_tick 137 = .ok (.invokevirtual 141, 3) := by decide +kernel
theorem dX4_tick_140 : decode cX4_tick 140 = .ok (.ifCond .eq 7, 3) := by decide +kernel
theorem dX4_tick_143 : decode cX4_tick 143 = .ok (.iload_n 3, 1) := by decide +kernel
theorem dX4_tick_144 : decode cX4_tick 144 = .ok (.goto 18, 3) := by decide +kernel
theorem dX4_tick_147 : decode cX4_tick 147 = .ok (.aload_n 0, 1) := by decide +kernel
theorem dX4_tick_148 : decode cX4_tick 148 = .ok (.iload 4, 2) := by decide +kernel
theorem dX4_tick_150 : decode cX4_tick 150 = .ok (.invokevirtual 141, 3) := by decide +kernel
theorem dX4_tick_153 : decode cX4_tick 153 = .ok (.ifCond .eq 8, 3) := by decide +kernel
theorem dX4_tick_156 : decode cX4_tick 156 = .ok (.iload 4, 2) := by decide +kernel
theorem dX4_tick_158 : decode cX4_tick 158 = .ok (.goto 4, 3) := by decide +kernel
theorem dX4_tick_161 : decode cX4_tick 161 = .ok (.iconst (-1), 1) := by decide +kernel
theorem dX4_tick_162 : decode cX4_tick 162 = .ok (.iastore, 1) := by decide +kernel
theorem dX4_tick_163 : decode cX4_tick 163 = .ok (.iinc 1 1, 3) := by decide +kernel
theorem dX4_tick_166 : decode cX4_tick 166 = .ok (.goto (-80), 3) := by decide +kernel
theorem dX4_tick_169 : decode cX4_tick 169 = .ok (.iconst 0, 1) := by decide +kernel
theorem dX4_tick_170 : decode cX4_tick 170 = .ok (.istore_n 1, 1) := by decide +kernel
theorem dX4_tick_171 : decode cX4_tick 171 = .ok (.iload_n 1, 1) := by decide +kernel
theorem dX4_tick_172 : decode cX4_tick 172 = .ok (.iconst 2, 1) := by decide +kernel
theorem dX4_tick_173 : decode cX4_tick 173 = .ok (.if_icmp .ge 32, 3) := by decide +kernel
theorem dX4_tick_176 : decode cX4_tick 176 = .ok (.aload_n 0, 1) := by decide +kernel
theorem dX4_tick_177 : decode cX4_tick 177 = .ok (.getfield 47, 3) := by decide +kernel
theorem dX4_tick_180 : decode cX4_tick 180 = .ok (.iload_n 1, 1) := by decide +kernel
theorem dX4_tick_181 : decode cX4_tick 181 = .ok (.iaload, 1) := by decide +kernel
theorem dX4_tick_182 : decode cX4_tick 182 = .ok (.ifCond .ne 17, 3) := by decide +kernel
theorem dX4_tick_185 : decode cX4_tick 185 = .ok (.aload_n 0, 1) := by decide +kernel
theorem dX4_tick_186 : decode cX4_tick 186 = .ok (.getfield 44, 3) := by decide +kernel
theorem dX4_tick_189 : decode cX4_tick 189 = .ok (.iload_n 1, 1) := by decide +kernel
theorem dX4_tick_190 : decode cX4_tick 190 = .ok (.iaload, 1) := by decide +kernel
theorem dX4_tick_191 : decode cX4_tick 191 = .ok (.ifCond .lt 8, 3) := by decide +kernel
theorem dX4_tick_194 : decode cX4_tick 194 = .ok (.aload_n 0, 1) := by decide +kernel
theorem dX4_tick_195 : decode cX4_tick 195 = .ok (.iload_n 1, 1) := by decide +kernel
theorem dX4_tick_196 : decode cX4_tick 196 = .ok (.invokevirtual 144, 3) := by decide +kernel
theorem dX4_tick_199 : decode cX4_tick 199 = .ok (.iinc 1 1, 3) := by decide +kernel
theorem dX4_tick_202 : decode cX4_tick 202 = .ok (.goto (-31), 3) := by decide +kernel
theorem dX4_tick_205 : decode cX4_tick 205 = .ok (.return_, 1) := by decide +kernel
theorem dX4_lightOf_0 : decode cX4_lightOf 0 = .ok (.iload_n 1, 1) := by decide +kernel
theorem dX4_lightOf_1 : decode cX4_lightOf 1 = .ok (.iconst 4, 1) := by decide +kernel
theorem dX4_lightOf_2 : decode cX4_lightOf 2 = .ok (.idiv, 1) := by decide +kernel
theorem dX4_lightOf_3 : decode cX4_lightOf 3 = .ok (.istore_n 2, 1) := by decide +kernel
theorem dX4_lightOf_4 : decode cX4_lightOf 4 = .ok (.aload_n 0, 1) := by decide +kernel
theorem dX4_lightOf_5 : decode cX4_lightOf 5 = .ok (.getfield 35, 3) := by decide +kernel
theorem dX4_lightOf_8 : decode cX4_lightOf 8 = .ok (.iload_n 1, 1) := by decide +kernel
theorem dX4_lightOf_9 : decode cX4_lightOf 9 = .ok (.iaload, 1) := by decide +kernel
theorem dX4_lightOf_10 : decode cX4_lightOf 10 = .ok (.ifCond .lt 10, 3) := by decide +kernel
theorem dX4_lightOf_13 : decode cX4_lightOf 13 = .ok (.aload_n 0, 1) := by decide +kernel
theorem dX4_lightOf_14 : decode cX4_lightOf 14 = .ok (.getfield 35, 3) := by decide +kernel
theorem dX4_lightOf_17 : decode cX4_lightOf 17 = .ok (.iload_n 1, 1) := by decide +kernel
theorem dX4_lightOf_18 : decode cX4_lightOf 18 = .ok (.iaload, 1) := by decide +kernel
theorem dX4_lightOf_19 : decode cX4_lightOf 19 = .ok (.ireturn, 1) := by decide +kernel
theorem dX4_lightOf_20 : decode cX4_lightOf 20 = .ok (.aload_n 0, 1) := by decide +kernel
theorem dX4_lightOf_21 : decode cX4_lightOf 21 = .ok (.getfield 41, 3) := by decide +kernel
theorem dX4_lightOf_24 : decode cX4_lightOf 24 = .ok (.iload_n 2, 1) := by decide +kernel
theorem dX4_lightOf_25 : decode cX4_lightOf 25 = .ok (.iaload, 1) := by decide +kernel
theorem dX4_lightOf_26 : decode cX4_lightOf 26 = .ok (.iload_n 1, 1) := by decide +kernel
theorem dX4_lightOf_27 : decode cX4_lightOf 27 = .ok (.if_icmp .eq 7, 3) := by decide +kernel
theorem dX4_lightOf_30 : decode cX4_lightOf 30 = .ok (.iconst 0, 1) := by decide +kernel
theorem dX4_lightOf_31 : decode cX4_lightOf 31 = .ok (.goto 32, 3) := by decide +kernel
theorem dX4_lightOf_34 : decode cX4_lightOf 34 = .ok (.aload_n 0, 1) := by decide +kernel
theorem dX4_lightOf_35 : decode cX4_lightOf 35 = .ok (.getfield 47, 3) := by decide +kernel
theorem dX4_lightOf_38 : decode cX4_lightOf 38 = .ok (.iload_n 2, 1) := by decide +kernel
theorem dX4_lightOf_39 : decode cX4_lightOf 39 = .ok (.iaload, 1) := by decide +kernel
theorem dX4_lightOf_40 : decode cX4_lightOf 40 = .ok (.iconst 1, 1) := by decide +kernel
theorem dX4_lightOf_41 : decode cX4_lightOf 41 = .ok (.if_icmp .ne 7, 3) := by decide +kernel
theorem dX4_lightOf_44 : decode cX4_lightOf 44 = .ok (.iconst 2, 1) := by decide +kernel
theorem dX4_lightOf_45 : decode cX4_lightOf 45 = .ok (.goto 18, 3) := by decide +kernel
theorem dX4_lightOf_48 : decode cX4_lightOf 48 = .ok (.aload_n 0, 1) := by decide +kernel
theorem dX4_lightOf_49 : decode cX4_lightOf 49 = .ok (.getfield 47, 3) := by decide +kernel
theorem dX4_lightOf_52 : decode cX4_lightOf 52 = .ok (.iload_n 2, 1) := by decide +kernel
theorem dX4_lightOf_53 : decode cX4_lightOf 53 = .ok (.iaload, 1) := by decide +kernel
theorem dX4_lightOf_54 : decode cX4_lightOf 54 = .ok (.iconst 2, 1) := by decide +kernel
theorem dX4_lightOf_55 : decode cX4_lightOf 55 = .ok (.if_icmp .ne 7, 3) := by decide +kernel
theorem dX4_lightOf_58 : decode cX4_lightOf 58 = .ok (.iconst 1, 1) := by decide +kernel
theorem dX4_lightOf_59 : decode cX4_lightOf 59 = .ok (.goto 4, 3) := by decide +kernel
theorem dX4_lightOf_62 : decode cX4_lightOf 62 = .ok (.iconst 0, 1) := by decide +kernel
theorem dX4_lightOf_63 : decode cX4_lightOf 63 = .ok (.ireturn, 1) := by decide +kernel
theorem dX4_areInWay_0 : decode cX4_areInWay 0 = .ok (.iload_n 0, 1) := by decide +kernel
theorem dX4_areInWay_1 : decode cX4_areInWay 1 = .ok (.iload_n 1, 1) := by decide +kernel
theorem dX4_areInWay_2 : decode cX4_areInWay 2 = .ok (.if_icmp .eq 29, 3) := by decide +kernel
theorem dX4_areInWay_5 : decode cX4_areInWay 5 = .ok (.iload_n 0, 1) := by decide +kernel
theorem dX4_areInWay_6 : decode cX4_areInWay 6 = .ok (.iconst 4, 1) := by decide +kernel
theorem dX4_areInWay_7 : decode cX4_areInWay 7 = .ok (.idiv, 1) := by decide +kernel
theorem dX4_areInWay_8 : decode cX4_areInWay 8 = .ok (.iload_n 1, 1) := by decide +kernel
theorem dX4_areInWay_9 : decode cX4_areInWay 9 = .ok (.iconst 4, 1) := by decide +kernel
theorem dX4_areInWay_10 : decode cX4_areInWay 10 = .ok (.idiv, 1) := by decide +kernel
theorem dX4_areInWay_11 : decode cX4_areInWay 11 = .ok (.if_icmp .eq 16, 3) := by decide +kernel
theorem dX4_areInWay_14 : decode cX4_areInWay 14 = .ok (.iload_n 0, 1) := by decide +kernel
theorem dX4_areInWay_15 : decode cX4_areInWay 15 = .ok (.iconst 4, 1) := by decide +kernel
theorem dX4_areInWay_16 : decode cX4_areInWay 16 = .ok (.irem, 1) := by decide +kernel
theorem dX4_areInWay_17 : decode cX4_areInWay 17 = .ok (.iconst 2, 1) := by decide +kernel
theorem dX4_areInWay_18 : decode cX4_areInWay 18 = .ok (.idiv, 1) := by decide +kernel
theorem dX4_areInWay_19 : decode cX4_areInWay 19 = .ok (.iload_n 1, 1) := by decide +kernel
theorem dX4_areInWay_20 : decode cX4_areInWay 20 = .ok (.iconst 4, 1) := by decide +kernel
theorem dX4_areInWay_21 : decode cX4_areInWay 21 = .ok (.irem, 1) := by decide +kernel
theorem dX4_areInWay_22 : decode cX4_areInWay 22 = .ok (.iconst 2, 1) := by decide +kernel
theorem dX4_areInWay_23 : decode cX4_areInWay 23 = .ok (.idiv, 1) := by decide +kernel
theorem dX4_areInWay_24 : decode cX4_areInWay 24 = .ok (.if_icmp .eq 7, 3) := by decide +kernel
theorem dX4_areInWay_27 : decode cX4_areInWay 27 = .ok (.iconst 1, 1) := by decide +kernel
theorem dX4_areInWay_28 : decode cX4_areInWay 28 = .ok (.goto 4, 3) := by decide +kernel
theorem dX4_areInWay_31 : decode cX4_areInWay 31 = .ok (.iconst 0, 1) := by decide +kernel
theorem dX4_areInWay_32 : decode cX4_areInWay 32 = .ok (.ireturn, 1) := by decide +kernel
theorem dX4_look_0 : decode cX4_look 0 = .ok (.iconst 0, 1) := by decide +kernel
theorem dX4_look_1 : decode cX4_look 1 = .ok (.istore_n 1, 1) := by decide +kernel
theorem dX4_look_2 : decode cX4_look 2 = .ok (.iconst 0, 1) := by decide +kernel
theorem dX4_look_3 : decode cX4_look 3 = .ok (.istore_n 2, 1) := by decide +kernel
theorem dX4_look_4 : decode cX4_look 4 = .ok (.iconst 0, 1) := by decide +kernel
theorem dX4_look_5 : decode cX4_look 5 = .ok (.istore_n 3, 1) := by decide +kernel
theorem dX4_look_6 : decode cX4_look 6 = .ok (.iconst 0, 1) := by decide +kernel
theorem dX4_look_7 : decode cX4_look 7 = .ok (.istore 4, 2) := by decide +kernel
theorem dX4_look_9 : decode cX4_look 9 = .ok (.iload 4, 2) := by decide +kernel
theorem dX4_look_11 : decode cX4_look 11 = .ok (.bipush 8, 2) := by decide +kernel
theorem dX4_look_13 : decode cX4_look 13 = .ok (.if_icmp .ge 130, 3) := by decide +kernel
theorem dX4_look_16 : decode cX4_look 16 = .ok (.aload_n 0, 1) := by decide +kernel
theorem dX4_look_17 : decode cX4_look 17 = .ok (.iload 4, 2) := by decide +kernel
theorem dX4_look_19 : decode cX4_look 19 = .ok (.invokevirtual 147, 3) := by decide +kernel
theorem dX4_look_22 : decode cX4_look 22 = .ok (.istore 5, 2) := by decide +kernel
theorem dX4_look_24 : decode cX4_look 24 = .ok (.iconst 0, 1) := by decide +kernel
theorem dX4_look_25 : decode cX4_look 25 = .ok (.istore 6, 2) := by decide +kernel
theorem dX4_look_27 : decode cX4_look 27 = .ok (.iload 6, 2) := by decide +kernel
theorem dX4_look_29 : decode cX4_look 29 = .ok (.bipush 8, 2) := by decide +kernel
theorem dX4_look_31 : decode cX4_look 31 = .ok (.if_icmp .ge 43, 3) := by decide +kernel
theorem dX4_look_34 : decode cX4_look 34 = .ok (.iload_n 1, 1) := by decide +kernel
theorem dX4_look_35 : decode cX4_look 35 = .ok (.ifCond .ne 27, 3) := by decide +kernel
theorem dX4_look_38 : decode cX4_look 38 = .ok (.iload 4, 2) := by decide +kernel
theorem dX4_look_40 : decode cX4_look 40 = .ok (.iload 6, 2) := by decide +kernel
theorem dX4_look_42 : decode cX4_look 42 = .ok (.invokestatic 151, 3) := by decide +kernel
theorem dX4_look_45 : decode cX4_look 45 = .ok (.ifCond .eq 21, 3) := by decide +kernel
theorem dX4_look_48 : decode cX4_look 48 = .ok (.iload 5, 2) := by decide +kernel
theorem dX4_look_50 : decode cX4_look 50 = .ok (.ifCond .le 16, 3) := by decide +kernel
theorem dX4_look_53 : decode cX4_look 53 = .ok (.aload_n 0, 1) := by decide +kernel
