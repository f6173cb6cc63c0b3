theorem dX4_init_0 : decode cX4_init 0 = .ok (.aload_n 0, 1) := by decide +kernel
theorem dX4_init_1 : decode cX4_init 1 = .ok (.invokespecial 1, 3) := by decide +kernel
theorem dX4_init_4 : decode cX4_init 4 = .ok (.aload_n 0, 1) := by decide +kernel
theorem dX4_init_5 : decode cX4_init 5 = .ok (.bipush 56, 2) := by decide +kernel
theorem dX4_init_7 : decode cX4_init 7 = .ok (.newarray .int, 2) := by decide +kernel
theorem dX4_init_9 : decode cX4_init 9 = .ok (.putfield 7, 3) := by decide +kernel
theorem dX4_init_12 : decode cX4_init 12 = .ok (.aload_n 0, 1) := by decide +kernel
theorem dX4_init_13 : decode cX4_init 13 = .ok (.bipush 8, 2) := by decide +kernel
theorem dX4_init_15 : decode cX4_init 15 = .ok (.newarray .int, 2) := by decide +kernel
theorem dX4_init_17 : decode cX4_init 17 = .ok (.putfield 13, 3) := by decide +kernel
theorem dX4_init_20 : decode cX4_init 20 = .ok (.aload_n 0, 1) := by decide +kernel
theorem dX4_init_21 : decode cX4_init 21 = .ok (.bipush 8, 2) := by decide +kernel
theorem dX4_init_23 : decode cX4_init 23 = .ok (.newarray .boolean, 2) := by decide +kernel
theorem dX4_init_25 : decode cX4_init 25 = .ok (.putfield 16, 3) := by decide +kernel
theorem dX4_init_28 : decode cX4_init 28 = .ok (.aload_n 0, 1) := by decide +kernel
theorem dX4_init_29 : decode cX4_init 29 = .ok (.bipush 8, 2) := by decide +kernel
theorem dX4_init_31 : decode cX4_init 31 = .ok (.newarray .boolean, 2) := by decide +kernel
theorem dX4_init_33 : decode cX4_init 33 = .ok (.putfield 20, 3) := by decide +kernel
theorem dX4_init_36 : decode cX4_init 36 = .ok (.aload_n 0, 1) := by decide +kernel
theorem dX4_init_37 : decode cX4_init 37 = .ok (.bipush 8, 2) := by decide +kernel
theorem dX4_init_39 : decode cX4_init 39 = .ok (.newarray .boolean, 2) := by decide +kernel
theorem dX4_init_41 : decode cX4_init 41 = .ok (.putfield 23, 3) := by decide +kernel
theorem dX4_init_44 : decode cX4_init 44 = .ok (.aload_n 0, 1) := by decide +kernel
theorem dX4_init_45 : decode cX4_init 45 = .ok (.bipush 8, 2) := by decide +kernel
theorem dX4_init_47 : decode cX4_init 47 = .ok (.newarray .int, 2) := by decide +kernel
theorem dX4_init_49 : decode cX4_init 49 = .ok (.putfield 26, 3) := by decide +kernel
theorem dX4_init_52 : decode cX4_init 52 = .ok (.aload_n 0, 1) := by decide +kernel
theorem dX4_init_53 : decode cX4_init 53 = .ok (.bipush 8, 2) := by decide +kernel
theorem dX4_init_55 : decode cX4_init 55 = .ok (.newarray .int, 2) := by decide +kernel
theorem dX4_init_57 : decode cX4_init 57 = .ok (.putfield 29, 3) := by decide +kernel
theorem dX4_init_60 : decode cX4_init 60 = .ok (.aload_n 0, 1) := by decide +kernel
theorem dX4_init_61 : decode cX4_init 61 = .ok (.bipush 8, 2) := by decide +kernel
theorem dX4_init_63 : decode cX4_init 63 = .ok (.newarray .int, 2) := by decide +kernel
theorem dX4_init_65 : decode cX4_init 65 = .ok (.putfield 32, 3) := by decide +kernel
theorem dX4_init_68 : decode cX4_init 68 = .ok (.aload_n 0, 1) := by decide +kernel
theorem dX4_init_69 : decode cX4_init 69 = .ok (.bipush 8, 2) := by decide +kernel
theorem dX4_init_71 : decode cX4_init 71 = .ok (.newarray .int, 2) := by decide +kernel
theorem dX4_init_73 : decode cX4_init 73 = .ok (.putfield 35, 3) := by decide +kernel
theorem dX4_init_76 : decode cX4_init 76 = .ok (.aload_n 0, 1) := by decide +kernel
theorem dX4_init_77 : decode cX4_init 77 = .ok (.iconst 4, 1) := by decide +kernel
theorem dX4_init_78 : decode cX4_init 78 = .ok (.newarray .boolean, 2) := by decide +kernel
theorem dX4_init_80 : decode cX4_init 80 = .ok (.putfield 38, 3) := by decide +kernel
theorem dX4_init_83 : decode cX4_init 83 = .ok (.aload_n 0, 1) := by decide +kernel
theorem dX4_init_84 : decode cX4_init 84 = .ok (.iconst 2, 1) := by decide +kernel
theorem dX4_init_85 : decode cX4_init 85 = .ok (.newarray .int, 2) := by decide +kernel
theorem dX4_init_87 : decode cX4_init 87 = .ok (.putfield 41, 3) := by decide +kernel
theorem dX4_init_90 : decode cX4_init 90 = .ok (.aload_n 0, 1) := by decide +kernel
theorem dX4_init_91 : decode cX4_init 91 = .ok (.iconst 2, 1) := by decide +kernel
theorem dX4_init_92 : decode cX4_init 92 = .ok (.newarray .int, 2) := by decide +kernel
theorem dX4_init_94 : decode cX4_init 94 = .ok (.putfield 44, 3) := by decide +kernel
theorem dX4_init_97 : decode cX4_init 97 = .ok (.aload_n 0, 1) := by decide +kernel
theorem dX4_init_98 : decode cX4_init 98 = .ok (.iconst 2, 1) := by decide +kernel
theorem dX4_init_99 : decode cX4_init 99 = .ok (.newarray .int, 2) := by decide +kernel
theorem dX4_init_101 : decode cX4_init 101 = .ok (.putfield 47, 3) := by decide +kernel
theorem dX4_init_104 : decode cX4_init 104 = .ok (.aload_n 0, 1) := by decide +kernel
theorem dX4_init_105 : decode cX4_init 105 = .ok (.iconst 2, 1) := by decide +kernel
theorem dX4_init_106 : decode cX4_init 106 = .ok (.newarray .int, 2) := by decide +kernel
theorem dX4_init_108 : decode cX4_init 108 = .ok (.putfield 50, 3) := by decide +kernel
theorem dX4_init_111 : decode cX4_init 111 = .ok (.aload_n 0, 1) := by decide +kernel
theorem dX4_init_112 : decode cX4_init 112 = .ok (.iconst 2, 1) := by decide +kernel
theorem dX4_init_113 : decode cX4_init 113 = .ok (.newarray .int, 2) := by decide +kernel
theorem dX4_init_115 : decode cX4_init 115 = .ok (.putfield 53, 3) := by decide +kernel
theorem dX4_init_118 : decode cX4_init 118 = .ok (.aload_n 0, 1) := by decide +kernel
theorem dX4_init_119 : decode cX4_init 119 = .ok (.iconst 2, 1) := by decide +kernel
theorem dX4_init_120 : decode cX4_init 120 = .ok (.newarray .int, 2) := by decide +kernel
theorem dX4_init_122 : decode cX4_init 122 = .ok (.putfield 56, 3) := by decide +kernel
theorem dX4_init_125 : decode cX4_init 125 = .ok (.aload_n 0, 1) := by decide +kernel
theorem dX4_init_126 : decode cX4_init 126 = .ok (.iconst 2, 1) := by decide +kernel
theorem dX4_init_127 : decode cX4_init 127 = .ok (.newarray .int, 2) := by decide +kernel
theorem dX4_init_129 : decode cX4_init 129 = .ok (.putfield 59, 3) := by decide +kernel
theorem dX4_init_132 : decode cX4_init 132 = .ok (.aload_n 0, 1) := by decide +kernel
theorem dX4_init_133 : decode cX4_init 133 = .ok (.iconst 2, 1) := by decide +kernel
theorem dX4_init_134 : decode cX4_init 134 = .ok (.newarray .int, 2) := by decide +kernel
theorem dX4_init_136 : decode cX4_init 136 = .ok (.putfield 62, 3) := by decide +kernel
theorem dX4_init_139 : decode cX4_init 139 = .ok (.aload_n 0, 1) := by decide +kernel
theorem dX4_init_140 : decode cX4_init 140 = .ok (.bipush 8, 2) := by decide +kernel
theorem dX4_init_142 : decode cX4_init 142 = .ok (.newarray .int, 2) := by decide +kernel
theorem dX4_init_144 : decode cX4_init 144 = .ok (.putfield 65, 3) := by decide +kernel
theorem dX4_init_147 : decode cX4_init 147 = .ok (.aload_n 0, 1) := by decide +kernel
theorem dX4_init_148 : decode cX4_init 148 = .ok (.bipush 8, 2) := by decide +kernel
theorem dX4_init_150 : decode cX4_init 150 = .ok (.newarray .int, 2) := by decide +kernel
theorem dX4_init_152 : decode cX4_init 152 = .ok (.putfield 68, 3) := by decide +kernel
theorem dX4_init_155 : decode cX4_init 155 = .ok (.iconst 0, 1) := by decide +kernel
theorem dX4_init_156 : decode cX4_init 156 = .ok (.istore_n 1, 1) := by decide +kernel
theorem dX4_init_157 : decode cX4_init 157 = .ok (.iload_n 1, 1) := by decide +kernel
theorem dX4_init_158 : decode cX4_init 158 = .ok (.bipush 8, 2) := by decide +kernel
theorem dX4_init_160 : decode cX4_init 160 = .ok (.if_icmp .ge 89, 3) := by decide +kernel
theorem dX4_init_163 : decode cX4_init 163 = .ok (.aload_n 0, 1) := by decide +kernel
theorem dX4_init_164 : decode cX4_init 164 = .ok (.getfield 13, 3) := by decide +kernel
theorem dX4_init_167 : decode cX4_init 167 = .ok (.iload_n 1, 1) := by decide +kernel
theorem dX4_init_168 : decode cX4_init 168 = .ok (.iconst 3, 1) := by decide +kernel
theorem dX4_init_169 : decode cX4_init 169 = .ok (.iastore, 1) := by decide +kernel
theorem dX4_init_170 : decode cX4_init 170 = .ok (.aload_n 0, 1) := by decide +kernel
theorem dX4_init_171 : decode cX4_init 171 = .ok (.getfield 35, 3) := by decide +kernel
theorem dX4_init_174 : decode cX4_init 174 = .ok (.iload_n 1, 1) := by decide +kernel
theorem dX4_init_175 : decode cX4_init 175 = .ok (.iconst (-1), 1) := by decide +kernel
theorem dX4_init_176 : decode cX4_init 176 = .ok (.iastore, 1) := by decide +kernel
theorem dX4_init_177 : decode cX4_init 177 = .ok (.aload_n 0, 1) := by decide +kernel
theorem dX4_init_178 : decode cX4_init 178 = .ok (.getfield 65, 3) := by decide +kernel
theorem dX4_init_181 : decode cX4_init 181 = .ok (.iload_n 1, 1) := by decide +kernel
theorem dX4_init_182 : decode cX4_init 182 = .ok (.iconst (-1), 1) := by decide +kernel
theorem dX4_init_183 : decode cX4_init 183 = .ok (.iastore, 1) := by decide +kernel
theorem dX4_init_184 : decode cX4_init 184 = .ok (.aload_n 0, 1) := by decide +kernel
theorem dX4_init_185 : decode cX4_init 185 = .ok (.getfield 7, 3) := by decide +kernel
theorem dX4_init_188 : decode cX4_init 188 = .ok (.bipush 7, 2) := by decide +kernel
theorem dX4_init_190 : decode cX4_init 190 = .ok (.iload_n 1, 1) := by decide +kernel
theorem dX4_init_191 : decode cX4_init 191 = .ok (.imul, 1) := by decide +kernel
theorem dX4_init_192 : decode cX4_init 192 = .ok (.iconst 5, 1) := by decide +kernel
theorem dX4_init_193 : decode cX4_init 193 = .ok (.iastore, 1) := by decide +kernel
theorem dX4_init_194 : decode cX4_init 194 = .ok (.aload_n 0, 1) := by decide +kernel
theorem dX4_init_195 : decode cX4_init 195 = .ok (.getfield 7, 3) := by decide +kernel
theorem dX4_init_198 : decode cX4_init 198 = .ok (.bipush 7, 2) := by decide +kernel
theorem dX4_init_200 : decode cX4_init 200 = .ok (.iload_n 1, 1) := by decide +kernel
theorem dX4_init_201 : decode cX4_init 201 = .ok (.imul, 1) := by decide +kernel
theorem dX4_init_202 : decode cX4_init 202 = .ok (.iconst 1, 1) := by decide +kernel
theorem dX4_init_203 : decode cX4_init 203 = .ok (.iadd, 1) := by decide +kernel
theorem dX4_init_204 : decode cX4_init 204 = .ok (.iconst 3, 1) := by decide +kernel
theorem dX4_init_205 : decode cX4_init 205 = .ok (.iastore, 1) := by decide +kernel
theorem dX4_init_206 : decode cX4_init 206 = .ok (.aload_n 0, 1) := by decide +kernel
theorem dX4_init_207 : decode cX4_init 207 = .ok (.getfield 7, 3) := by decide +kernel
theorem dX4_init_210 : decode cX4_init 210 = .ok (.bipush 7, 2) := by decide +kernel
theorem dX4_init_212 : decode cX4_init 212 = .ok (.iload_n 1, 1) := by decide +kernel
theorem dX4_init_213 : decode cX4_init 213 = .ok (.imul, 1) := by decide +kernel
theorem dX4_init_214 : decode cX4_init 214 = .ok (.iconst 2, 1) := by decide +kernel
theorem dX4_init_215 : decode cX4_init 215 = .ok (.iadd, 1) := by decide +kernel
theorem dX4_init_216 : decode cX4_init 216 = .ok (.bipush 30, 2) := by decide +kernel
theorem dX4_init_218 : decode cX4_init 218 = .ok (.iastore, 1) := by decide +kernel
theorem dX4_init_219 : decode cX4_init 219 = .ok (.aload_n 0, 1) := by decide +kernel
theorem dX4_init_220 : decode cX4_init 220 = .ok (.getfield 7, 3) := by decide +kernel
theorem dX4_init_223 : decode cX4_init 223 = .ok (.bipush 7, 2) := by decide +kernel
theorem dX4_init_225 : decode cX4_init 225 = .ok (.iload_n 1, 1) := by decide +kernel
theorem dX4_init_226 : decode cX4_init 226 = .ok (.imul, 1) := by decide +kernel
theorem dX4_init_227 : decode cX4_init 227 = .ok (.iconst 3, 1) := by decide +kernel
theorem dX4_init_228 : decode cX4_init 228 = .ok (.iadd, 1) := by decide +kernel
theorem dX4_init_229 : decode cX4_init 229 = .ok (.iconst 4, 1) := by decide +kernel
theorem dX4_init_230 : decode cX4_init 230 = .ok (.iastore, 1) := by decide +kernel
theorem dX4_init_231 : decode cX4_init 231 = .ok (.aload_n 0, 1) := by decide +kernel
theorem dX4_init_232 : decode cX4_init 232 = .ok (.getfield 7, 3) := by decide +kernel
theorem dX4_init_235 : decode cX4_init 235 = .ok (.bipush 7, 2) := by decide +kernel
theorem dX4_init_237 : decode cX4_init 237 = .ok (.iload_n 1, 1) := by decide +kernel
theorem dX4_init_238 : decode cX4_init 238 = .ok (.imul, 1) := by decide +kernel
theorem dX4_init_239 : decode cX4_init 239 = .ok (.iconst 4, 1) := by decide +kernel
theorem dX4_init_240 : decode cX4_init 240 = .ok (.iadd, 1) := by decide +kernel
theorem dX4_init_241 : decode cX4_init 241 = .ok (.iconst 2, 1) := by decide +kernel
theorem dX4_init_242 : decode cX4_init 242 = .ok (.iastore, 1) := by decide +kernel
theorem dX4_init_243 : decode cX4_init 243 = .ok (.iinc 1 1, 3) := by decide +kernel
theorem dX4_init_246 : decode cX4_init 246 = .ok (.goto (-89), 3) := by decide +kernel
theorem dX4_init_249 : decode cX4_init 249 = .ok (.aload_n 0, 1) := by decide +kernel
theorem dX4_init_250 : decode cX4_init 250 = .ok (.getfield 41, 3) := by decide +kernel
theorem dX4_init_253 : decode cX4_init 253 = .ok (.iconst 0, 1) := by decide +kernel
theorem dX4_init_254 : decode cX4_init 254 = .ok (.iconst (-1), 1) := by decide +kernel
theorem dX4_init_255 : decode cX4_init 255 = .ok (.iastore, 1) := by decide +kernel
theorem dX4_init_256 : decode cX4_init 256 = .ok (.aload_n 0, 1) := by decide +kernel
theorem dX4_init_257 : decode cX4_init 257 = .ok (.getfield 41, 3) := by decide +kernel
theorem dX4_init_260 : decode cX4_init 260 = .ok (.iconst 1, 1) := by decide +kernel
theorem dX4_init_261 : decode cX4_init 261 = .ok (.iconst (-1), 1) := by decide +kernel
theorem dX4_init_262 : decode cX4_init 262 = .ok (.iastore, 1) := by decide +kernel
theorem dX4_init_263 : decode cX4_init 263 = .ok (.aload_n 0, 1) := by decide +kernel
theorem dX4_init_264 : decode cX4_init 264 = .ok (.getfield 44, 3) := by decide +kernel
theorem dX4_init_267 : decode cX4_init 267 = .ok (.iconst 0, 1) := by decide +kernel
theorem dX4_init_268 : decode cX4_init 268 = .ok (.iconst (-1), 1) := by decide +kernel
theorem dX4_init_269 : decode cX4_init 269 = .ok (.iastore, 1) := by decide +kernel
theorem dX4_init_270 : decode cX4_init 270 = .ok (.aload_n 0, 1) := by decide +kernel
theorem dX4_init_271 : decode cX4_init 271 = .ok (.getfield 44, 3) := by decide +kernel
theorem dX4_init_274 : decode cX4_init 274 = .ok (.iconst 1, 1) := by decide +kernel
theorem dX4_init_275 : decode cX4_init 275 = .ok (.iconst (-1), 1) := by decide +kernel
theorem dX4_init_276 : decode cX4_init 276 = .ok (.iastore, 1) := by decide +kernel
theorem dX4_init_277 : decode cX4_init 277 = .ok (.return_, 1) := by decide +kernel
theorem dX4_isMovement_0 : decode cX4_isMovement 0 = .ok (.iload_n 0, 1) := by decide +kernel
theorem dX4_isMovement_1 : decode cX4_isMovement 1 = .ok (.ifCond .lt 13, 3) := by decide +kernel
theorem dX4_isMovement_4 : decode cX4_isMovement 4 = .ok (.iload_n 0, 1) := by decide +kernel
theorem dX4_isMovement_5 : decode cX4_isMovement 5 = .ok (.bipush 8, 2) := by decide +kernel
theorem dX4_isMovement_7 : decode cX4_isMovement 7 = .ok (.if_icmp .ge 7, 3) := by decide +kernel
theorem dX4_isMovement_10 : decode cX4_isMovement 10 = .ok (.iconst 1, 1) := by decide +kernel
theorem dX4_isMovement_11 : decode cX4_isMovement 11 = .ok (.goto 4, 3) := by decide +kernel
theorem dX4_isMovement_14 : decode cX4_isMovement 14 = .ok (.iconst 0, 1) := by decide +kernel
theorem dX4_isMovement_15 : decode cX4_isMovement 15 = .ok (.ireturn, 1) := by decide +kernel
theorem dX4_timeOf_0 : decode cX4_timeOf 0 = .ok (.aload_n 0, 1) := by decide +kernel
theorem dX4_timeOf_1 : decode cX4_timeOf 1 = .ok (.getfield 7, 3) := by decide +kernel
theorem dX4_timeOf_4 : decode cX4_timeOf 4 = .ok (.bipush 7, 2) := by decide +kernel
theorem dX4_timeOf_6 : decode cX4_timeOf 6 = .ok (.iload_n 1, 1) := by decide +kernel
theorem dX4_timeOf_7 : decode cX4_timeOf 7 = .ok (.imul, 1) := by decide +kernel
theorem dX4_timeOf_8 : decode cX4_timeOf 8 = .ok (.iload_n 2, 1) := by decide +kernel
theorem dX4_timeOf_9 : decode cX4_timeOf 9 = .ok (.iadd, 1) := by decide +kernel
theorem dX4_timeOf_10 : decode cX4_timeOf 10 = .ok (.iaload, 1) := by decide +kernel
theorem dX4_timeOf_11 : decode cX4_timeOf 11 = .ok (.ireturn, 1) := by decide +kernel
theorem dX4_has_0 : decode cX4_has 0 = .ok (.aload_n 0, 1) := by decide +kernel
theorem dX4_has_1 : decode cX4_has 1 = .ok (.getfield 13, 3) := by decide +kernel
theorem dX4_has_4 : decode cX4_has 4 = .ok (.iload_n 1, 1) := by decide +kernel
theorem dX4_has_5 : decode cX4_has 5 = .ok (.iaload, 1) := by decide +kernel
theorem dX4_has_6 : decode cX4_has 6 = .ok (.iload_n 2, 1) := by decide +kernel
theorem dX4_has_7 : decode cX4_has 7 = .ok (.iand, 1) := by decide +kernel
theorem dX4_has_8 : decode cX4_has 8 = .ok (.ifCond .eq 7, 3) := by decide +kernel
theorem dX4_has_11 : decode cX4_has 11 = .ok (.iconst 1, 1) := by decide +kernel
theorem dX4_has_12 : decode cX4_has 12 = .ok (.goto 4, 3) := by decide +kernel
theorem dX4_has_15 : decode cX4_has 15 = .ok (.iconst 0, 1) := by decide +kernel
theorem dX4_has_16 : decode cX4_has 16 = .ok (.ireturn, 1) := by decide +kernel
theorem dX4_isGreen_0 : decode cX4_isGreen 0 = .ok (.aload_n 0, 1) := by decide +kernel
theorem dX4_isGreen_1 : decode cX4_isGreen 1 = .ok (.getfield 41, 3) := by decide +kernel
theorem dX4_isGreen_4 : decode cX4_isGreen 4 = .ok (.iload_n 1, 1) := by decide +kernel
theorem dX4_isGreen_5 : decode cX4_isGreen 5 = .ok (.iconst 4, 1) := by decide +kernel
theorem dX4_isGreen_6 : decode cX4_isGreen 6 = .ok (.idiv, 1) := by decide +kernel
theorem dX4_isGreen_7 : decode cX4_isGreen 7 = .ok (.iaload, 1) := by decide +kernel
theorem dX4_isGreen_8 : decode cX4_isGreen 8 = .ok (.iload_n 1, 1) := by decide +kernel
theorem dX4_isGreen_9 : decode cX4_isGreen 9 = .ok (.if_icmp .ne 19, 3) := by decide +kernel
theorem dX4_isGreen_12 : decode cX4_isGreen 12 = .ok (.aload_n 0, 1) := by decide +kernel
theorem dX4_isGreen_13 : decode cX4_isGreen 13 = .ok (.getfield 47, 3) := by decide +kernel
theorem dX4_isGreen_16 : decode cX4_isGreen 16 = .ok (.iload_n 1, 1) := by decide +kernel
theorem dX4_isGreen_17 : decode cX4_isGreen 17 = .ok (.iconst 4, 1) := by decide +kernel
theorem dX4_isGreen_18 : decode cX4_isGreen 18 = .ok (.idiv, 1) := by decide +kernel
theorem dX4_isGreen_19 : decode cX4_isGreen 19 = .ok (.iaload, 1) := by decide +kernel
theorem dX4_isGreen_20 : decode cX4_isGreen 20 = .ok (.iconst 1, 1) := by decide +kernel
theorem dX4_isGreen_21 : decode cX4_isGreen 21 = .ok (.if_icmp .ne 7, 3) := by decide +kernel
theorem dX4_isGreen_24 : decode cX4_isGreen 24 = .ok (.iconst 1, 1) := by decide +kernel
theorem dX4_isGreen_25 : decode cX4_isGreen 25 = .ok (.goto 4, 3) := by decide +kernel
theorem dX4_isGreen_28 : decode cX4_isGreen 28 = .ok (.iconst 0, 1) := by decide +kernel
theorem dX4_isGreen_29 : decode cX4_isGreen 29 = .ok (.ireturn, 1) := by decide +kernel
theorem dX4_isCalled_0 : decode cX4_isCalled 0 = .ok (.aload_n 0, 1) := by decide +kernel
theorem dX4_isCalled_1 : decode cX4_isCalled 1 = .ok (.iload_n 1, 1) := by decide +kernel
theorem dX4_isCalled_2 : decode cX4_isCalled 2 = .ok (.iconst 1, 1) := by decide +kernel
theorem dX4_isCalled_3 : decode cX4_isCalled 3 = .ok (.invokevirtual 75, 3) := by decide +kernel
theorem dX4_isCalled_6 : decode cX4_isCalled 6 = .ok (.ifCond .eq 71, 3) := by decide +kernel
theorem dX4_isCalled_9 : decode cX4_isCalled 9 = .ok (.aload_n 0, 1) := by decide +kernel
theorem dX4_isCalled_10 : decode cX4_isCalled 10 = .ok (.iload_n 1, 1) := by decide +kernel
theorem dX4_isCalled_11 : decode cX4_isCalled 11 = .ok (.invokevirtual 79, 3) := by decide +kernel
theorem dX4_isCalled_14 : decode cX4_isCalled 14 = .ok (.ifCond .ne 63, 3) := by decide +kernel
theorem dX4_isCalled_17 : decode cX4_isCalled 17 = .ok (.aload_n 0, 1) := by decide +kernel
theorem dX4_isCalled_18 : decode cX4_isCalled 18 = .ok (.getfield 16, 3) := by decide +kernel
theorem dX4_isCalled_21 : decode cX4_isCalled 21 = .ok (.iload_n 1, 1) := by decide +kernel
theorem dX4_isCalled_22 : decode cX4_isCalled 22 = .ok (.baload, 1) := by decide +kernel
theorem dX4_isCalled_23 : decode cX4_isCalled 23 = .ok (.ifCond .ne 50, 3) := by decide +kernel
theorem dX4_isCalled_26 : decode cX4_isCalled 26 = .ok (.aload_n 0, 1) := by decide +kernel
theorem dX4_isCalled_27 : decode cX4_isCalled 27 = .ok (.getfield 23, 3) := by decide +kernel
theorem dX4_isCalled_30 : decode cX4_isCalled 30 = .ok (.iload_n 1, 1) := by decide +kernel
theorem dX4_isCalled_31 : decode cX4_isCalled 31 = .ok (.baload, 1) := by decide +kernel
theorem dX4_isCalled_32 : decode cX4_isCalled 32 = .ok (.ifCond .ne 41, 3) := by decide +kernel
theorem dX4_isCalled_35 : decode cX4_isCalled 35 = .ok (.aload_n 0, 1) := by decide +kernel
theorem dX4_isCalled_36 : decode cX4_isCalled 36 = .ok (.getfield 20, 3) := by decide +kernel
theorem dX4_isCalled_39 : decode cX4_isCalled 39 = .ok (.iload_n 1, 1) := by decide +kernel
theorem dX4_isCalled_40 : decode cX4_isCalled 40 = .ok (.baload, 1) := by decide +kernel
theorem dX4_isCalled_41 : decode cX4_isCalled 41 = .ok (.ifCond .ne 32, 3) := by decide +kernel
theorem dX4_isCalled_44 : decode cX4_isCalled 44 = .ok (.aload_n 0, 1) := by decide +kernel
theorem dX4_isCalled_45 : decode cX4_isCalled 45 = .ok (.iload_n 1, 1) := by decide +kernel
theorem dX4_isCalled_46 : decode cX4_isCalled 46 = .ok (.iconst 4, 1) := by decide +kernel
theorem dX4_isCalled_47 : decode cX4_isCalled 47 = .ok (.invokevirtual 75, 3) := by decide +kernel
theorem dX4_isCalled_50 : decode cX4_isCalled 50 = .ok (.ifCond .ne 23, 3) := by decide +kernel
theorem dX4_isCalled_53 : decode cX4_isCalled 53 = .ok (.aload_n 0, 1) := by decide +kernel
theorem dX4_isCalled_54 : decode cX4_isCalled 54 = .ok (.iload_n 1, 1) := by decide +kernel
theorem dX4_isCalled_55 : decode cX4_isCalled 55 = .ok (.bipush 8, 2) := by decide +kernel
theorem dX4_isCalled_57 : decode cX4_isCalled 57 = .ok (.invokevirtual 75, 3) := by decide +kernel
theorem dX4_isCalled_60 : decode cX4_isCalled 60 = .ok (.ifCond .ne 13, 3) := by decide +kernel
theorem dX4_isCalled_63 : decode cX4_isCalled 63 = .ok (.aload_n 0, 1) := by decide +kernel
theorem dX4_isCalled_64 : decode cX4_isCalled 64 = .ok (.iload_n 1, 1) := by decide +kernel
theorem dX4_isCalled_65 : decode cX4_isCalled 65 = .ok (.bipush 16, 2) := by decide +kernel
theorem dX4_isCalled_67 : decode cX4_isCalled 67 = .ok (.invokevirtual 75, 3) := by decide +kernel
theorem dX4_isCalled_70 : decode cX4_isCalled 70 = .ok (.ifCond .eq 7, 3) := by decide +kernel
theorem dX4_isCalled_73 : decode cX4_isCalled 73 = .ok (.iconst 1, 1) := by decide +kernel
theorem dX4_isCalled_74 : decode cX4_isCalled 74 = .ok (.goto 4, 3) := by decide +kernel
theorem dX4_isCalled_77 : decode cX4_isCalled 77 = .ok (.iconst 0, 1) := by decide +kernel
theorem dX4_isCalled_78 : decode cX4_isCalled 78 = .ok (.ireturn, 1) := by decide +kernel
theorem dX4_fits_0 : decode cX4_fits 0 = .ok (.iload_n 0, 1) := by decide +kernel
theorem dX4_fits_1 : decode cX4_fits 1 = .ok (.tableswitch 145 0 6 #[43, 61, 77, 95, 112, 61, 128], 43) := by decide +kernel
theorem dX4_fits_44 : decode cX4_fits 44 = .ok (.iload_n 1, 1) := by decide +kernel
theorem dX4_fits_45 : decode cX4_fits 45 = .ok (.iconst 1, 1) := by decide +kernel
theorem dX4_fits_46 : decode cX4_fits 46 = .ok (.if_icmp .lt 14, 3) := by decide +kernel
theorem dX4_fits_49 : decode cX4_fits 49 = .ok (.iload_n 1, 1) := by decide +kernel
theorem dX4_fits_50 : decode cX4_fits 50 = .ok (.sipush 200, 3) := by decide +kernel
theorem dX4_fits_53 : decode cX4_fits 53 = .ok (.if_icmp .gt 7, 3) := by decide +kernel
theorem dX4_fits_56 : decode cX4_fits 56 = .ok (.iconst 1, 1) := by decide +kernel
theorem dX4_fits_57 : decode cX4_fits 57 = .ok (.goto 4, 3) := by decide +kernel
theorem dX4_fits_60 : decode cX4_fits 60 = .ok (.iconst 0, 1) := by decide +kernel
theorem dX4_fits_61 : decode cX4_fits 61 = .ok (.ireturn, 1) := by decide +kernel
theorem dX4_fits_62 : decode cX4_fits 62 = .ok (.iload_n 1, 1) := by decide +kernel
theorem dX4_fits_63 : decode cX4_fits 63 = .ok (.ifCond .lt 13, 3) := by decide +kernel
theorem dX4_fits_66 : decode cX4_fits 66 = .ok (.iload_n 1, 1) := by decide +kernel
theorem dX4_fits_67 : decode cX4_fits 67 = .ok (.bipush 100, 2) := by decide +kernel
theorem dX4_fits_69 : decode cX4_fits 69 = .ok (.if_icmp .gt 7, 3) := by decide +kernel
theorem dX4_fits_72 : decode cX4_fits 72 = .ok (.iconst 1, 1) := by decide +kernel
theorem dX4_fits_73 : decode cX4_fits 73 = .ok (.goto 4, 3) := by decide +kernel
theorem dX4_fits_76 : decode cX4_fits 76 = .ok (.iconst 0, 1) := by decide +kernel
theorem dX4_fits_77 : decode cX4_fits 77 = .ok (.ireturn, 1) := by decide +kernel
theorem dX4_fits_78 : decode cX4_fits 78 = .ok (.iload_n 1, 1) := by decide +kernel
theorem dX4_fits_79 : decode cX4_fits 79 = .ok (.iconst 1, 1) := by decide +kernel
theorem dX4_fits_80 : decode cX4_fits 80 = .ok (.if_icmp .lt 14, 3) := by decide +kernel
theorem dX4_fits_83 : decode cX4_fits 83 = .ok (.iload_n 1, 1) := by decide +kernel
theorem dX4_fits_84 : decode cX4_fits 84 = .ok (.sipush 500, 3) := by decide +kernel
theorem dX4_fits_87 : decode cX4_fits 87 = .ok (.if_icmp .gt 7, 3) := by decide +kernel
theorem dX4_fits_90 : decode cX4_fits 90 = .ok (.iconst 1, 1) := by decide +kernel
theorem dX4_fits_91 : decode cX4_fits 91 = .ok (.goto 4, 3) := by decide +kernel
theorem dX4_fits_94 : decode cX4_fits 94 = .ok (.iconst 0, 1) := by decide +kernel
theorem dX4_fits_95 : decode cX4_fits 95 = .ok (.ireturn, 1) := by decide +kernel
theorem dX4_fits_96 : decode cX4_fits 96 = .ok (.iload_n 1, 1) := by decide +kernel
theorem dX4_fits_97 : decode cX4_fits 97 = .ok (.iconst 3, 1) := by decide +kernel
theorem dX4_fits_98 : decode cX4_fits 98 = .ok (.if_icmp .lt 13, 3) := by decide +kernel
theorem dX4_fits_101 : decode cX4_fits 101 = .ok (.iload_n 1, 1) := by decide +kernel
theorem dX4_fits_102 : decode cX4_fits 102 = .ok (.bipush 50, 2) := by decide +kernel
theorem dX4_fits_104 : decode cX4_fits 104 = .ok (.if_icmp .gt 7, 3) := by decide +kernel
theorem dX4_fits_107 : decode cX4_fits 107 = .ok (.iconst 1, 1) := by decide +kernel
theorem dX4_fits_108 : decode cX4_fits 108 = .ok (.goto 4, 3) := by decide +kernel
theorem dX4_fits_111 : decode cX4_fits 111 = .ok (.iconst 0, 1) := by decide +kernel
theorem dX4_fits_112 : decode cX4_fits 112 = .ok (.ireturn, 1) := by decide +kernel
theorem dX4_fits_113 : decode cX4_fits 113 = .ok (.iload_n 1, 1) := by decide +kernel
theorem dX4_fits_114 : decode cX4_fits 114 = .ok (.ifCond .lt 13, 3) := by decide +kernel
theorem dX4_fits_117 : decode cX4_fits 117 = .ok (.iload_n 1, 1) := by decide +kernel
theorem dX4_fits_118 : decode cX4_fits 118 = .ok (.bipush 50, 2) := by decide +kernel
theorem dX4_fits_120 : decode cX4_fits 120 = .ok (.if_icmp .gt 7, 3) := by decide +kernel
theorem dX4_fits_123 : decode cX4_fits 123 = .ok (.iconst 1, 1) := by decide +kernel
theorem dX4_fits_124 : decode cX4_fits 124 = .ok (.goto 4, 3) := by decide +kernel
theorem dX4_fits_127 : decode cX4_fits 127 = .ok (.iconst 0, 1) := by decide +kernel
theorem dX4_fits_128 : decode cX4_fits 128 = .ok (.ireturn, 1) := by decide +kernel
theorem dX4_fits_129 : decode cX4_fits 129 = .ok (.iload_n 1, 1) := by decide +kernel
theorem dX4_fits_130 : decode cX4_fits 130 = .ok (.ifCond .lt 14, 3) := by decide +kernel
theorem dX4_fits_133 : decode cX4_fits 133 = .ok (.iload_n 1, 1) := by decide +kernel
theorem dX4_fits_134 : decode cX4_fits 134 = .ok (.sipush 200, 3) := by decide +kernel
theorem dX4_fits_137 : decode cX4_fits 137 = .ok (.if_icmp .gt 7, 3) := by decide +kernel
theorem dX4_fits_140 : decode cX4_fits 140 = .ok (.iconst 1, 1) := by decide +kernel
theorem dX4_fits_141 : decode cX4_fits 141 = .ok (.goto 4, 3) := by decide +kernel
theorem dX4_fits_144 : decode cX4_fits 144 = .ok (.iconst 0, 1) := by decide +kernel
theorem dX4_fits_145 : decode cX4_fits 145 = .ok (.ireturn, 1) := by decide +kernel
theorem dX4_fits_146 : decode cX4_fits 146 = .ok (.iconst 0, 1) := by decide +kernel
theorem dX4_fits_147 : decode cX4_fits 147 = .ok (.ireturn, 1) := by decide +kernel
theorem dX4_set_0 : decode cX4_set 0 = .ok (.aload_n 0, 1) := by decide +kernel
theorem dX4_set_1 : decode cX4_set 1 = .ok (.iconst 0, 1) := by decide +kernel
theorem dX4_set_2 : decode cX4_set 2 = .ok (.putfield 71, 3) := by decide +kernel
theorem dX4_set_5 : decode cX4_set 5 = .ok (.iload_n 1, 1) := by decide +kernel
theorem dX4_set_6 : decode cX4_set 6 = .ok (.invokestatic 83, 3) := by decide +kernel
theorem dX4_set_9 : decode cX4_set 9 = .ok (.ifCond .eq 11, 3) := by decide +kernel
theorem dX4_set_12 : decode cX4_set 12 = .ok (.iload_n 2, 1) := by decide +kernel
theorem dX4_set_13 : decode cX4_set 13 = .ok (.iload_n 3, 1) := by decide +kernel
theorem dX4_set_14 : decode cX4_set 14 = .ok (.invokestatic 86, 3) := by decide +kernel
theorem dX4_set_17 : decode cX4_set 17 = .ok (.ifCond .ne 5, 3) := by decide +kernel
theorem dX4_set_20 : decode cX4_set 20 = .ok (.iconst 0, 1) := by decide +kernel
theorem dX4_set_21 : decode cX4_set 21 = .ok (.ireturn, 1) := by decide +kernel
theorem dX4_set_22 : decode cX4_set 22 = .ok (.aload_n 0, 1) := by decide +kernel
theorem dX4_set_23 : decode cX4_set 23 = .ok (.getfield 7, 3) := by decide +kernel
theorem dX4_set_26 : decode cX4_set 26 = .ok (.bipush 7, 2) := by decide +kernel
theorem dX4_set_28 : decode cX4_set 28 = .ok (.iload_n 1, 1) := by decide +kernel
theorem dX4_set_29 : decode cX4_set 29 = .ok (.imul, 1) := by decide +kernel
theorem dX4_set_30 : decode cX4_set 30 = .ok (.iload_n 2, 1) := by decide +kernel
theorem dX4_set_31 : decode cX4_set 31 = .ok (.iadd, 1) := by decide +kernel
theorem dX4_set_32 : decode cX4_set 32 = .ok (.iload_n 3, 1) := by decide +kernel
theorem dX4_set_33 : decode cX4_set 33 = .ok (.iastore, 1) := by decide +kernel
theorem dX4_set_34 : decode cX4_set 34 = .ok (.iconst 1, 1) := by decide +kernel
theorem dX4_set_35 : decode cX4_set 35 = .ok (.ireturn, 1) := by decide +kernel
theorem dX4_mode_0 : decode cX4_mode 0 = .ok (.aload_n 0, 1) := by decide +kernel
theorem dX4_mode_1 : decode cX4_mode 1 = .ok (.iconst 0, 1) := by decide +kernel
theorem dX4_mode_2 : decode cX4_mode 2 = .ok (.putfield 71, 3) := by decide +kernel
theorem dX4_mode_5 : decode cX4_mode 5 = .ok (.iload_n 1, 1) := by decide +kernel
theorem dX4_mode_6 : decode cX4_mode 6 = .ok (.invokestatic 83, 3) := by decide +kernel
theorem dX4_mode_9 : decode cX4_mode 9 = .ok (.ifCond .eq 13, 3) := by decide +kernel
theorem dX4_mode_12 : decode cX4_mode 12 = .ok (.iload_n 2, 1) := by decide +kernel
theorem dX4_mode_13 : decode cX4_mode 13 = .ok (.ifCond .lt 9, 3) := by decide +kernel
theorem dX4_mode_16 : decode cX4_mode 16 = .ok (.iload_n 2, 1) := by decide +kernel
theorem dX4_mode_17 : decode cX4_mode 17 = .ok (.bipush 63, 2) := by decide +kernel
theorem dX4_mode_19 : decode cX4_mode 19 = .ok (.if_icmp .le 5, 3) := by decide +kernel
theorem dX4_mode_22 : decode cX4_mode 22 = .ok (.iconst 0, 1) := by decide +kernel
theorem dX4_mode_23 : decode cX4_mode 23 = .ok (.ireturn, 1) := by decide +kernel
theorem dX4_mode_24 : decode cX4_mode 24 = .ok (.aload_n 0, 1) := by decide +kernel
theorem dX4_mode_25 : decode cX4_mode 25 = .ok (.getfield 13, 3) := by decide +kernel
theorem dX4_mode_28 : decode cX4_mode 28 = .ok (.iload_n 1, 1) := by decide +kernel
theorem dX4_mode_29 : decode cX4_mode 29 = .ok (.iload_n 2, 1) := by decide +kernel
theorem dX4_mode_30 : decode cX4_mode 30 = .ok (.iastore, 1) := by decide +kernel
theorem dX4_mode_31 : decode cX4_mode 31 = .ok (.iconst 1, 1) := by decide +kernel
theorem dX4_mode_32 : decode cX4_mode 32 = .ok (.ireturn, 1) := by decide +kernel
theorem dX4_isOf_0 : decode cX4_isOf 0 = .ok (.iload_n 0, 1) := by decide +kernel
theorem dX4_isOf_1 : decode cX4_isOf 1 = .ok (.ifCond .lt 23, 3) := by decide +kernel
theorem dX4_isOf_4 : decode cX4_isOf 4 = .ok (.iload_n 0, 1) := by decide +kernel
theorem dX4_isOf_5 : decode cX4_isOf 5 = .ok (.iconst 4, 1) := by decide +kernel
theorem dX4_isOf_6 : decode cX4_isOf 6 = .ok (.idiv, 1) := by decide +kernel
theorem dX4_isOf_7 : decode cX4_isOf 7 = .ok (.iload_n 1, 1) := by decide +kernel
theorem dX4_isOf_8 : decode cX4_isOf 8 = .ok (.if_icmp .ne 16, 3) := by decide +kernel
theorem dX4_isOf_11 : decode cX4_isOf 11 = .ok (.iload_n 0, 1) := by decide +kernel
theorem dX4_isOf_12 : decode cX4_isOf 12 = .ok (.iconst 4, 1) := by decide +kernel
theorem dX4_isOf_13 : decode cX4_isOf 13 = .ok (.irem, 1) := by decide +kernel
theorem dX4_isOf_14 : decode cX4_isOf 14 = .ok (.iconst 2, 1) := by decide +kernel
theorem dX4_isOf_15 : decode cX4_isOf 15 = .ok (.idiv, 1) := by decide +kernel
theorem dX4_isOf_16 : decode cX4_isOf 16 = .ok (.iload_n 2, 1) := by decide +kernel
theorem dX4_isOf_17 : decode cX4_isOf 17 = .ok (.if_icmp .ne 7, 3) := by decide +kernel
theorem dX4_isOf_20 : decode cX4_isOf 20 = .ok (.iconst 1, 1) := by decide +kernel
theorem dX4_isOf_21 : decode cX4_isOf 21 = .ok (.goto 4, 3) := by decide +kernel
theorem dX4_isOf_24 : decode cX4_isOf 24 = .ok (.iconst 0, 1) := by decide +kernel
theorem dX4_isOf_25 : decode cX4_isOf 25 = .ok (.ireturn, 1) := by decide +kernel
theorem dX4_exchange_0 : decode cX4_exchange 0 = .ok (.aload_n 0, 1) := by decide +kernel
theorem dX4_exchange_1 : decode cX4_exchange 1 = .ok (.iconst 0, 1) := by decide +kernel
theorem dX4_exchange_2 : decode cX4_exchange 2 = .ok (.putfield 71, 3) := by decide +kernel
theorem dX4_exchange_5 : decode cX4_exchange 5 = .ok (.iload_n 1, 1) := by decide +kernel
theorem dX4_exchange_6 : decode cX4_exchange 6 = .ok (.ifCond .lt 21, 3) := by decide +kernel
theorem dX4_exchange_9 : decode cX4_exchange 9 = .ok (.iload_n 1, 1) := by decide +kernel
theorem dX4_exchange_10 : decode cX4_exchange 10 = .ok (.iconst 1, 1) := by decide +kernel
theorem dX4_exchange_11 : decode cX4_exchange 11 = .ok (.if_icmp .gt 16, 3) := by decide +kernel
theorem dX4_exchange_14 : decode cX4_exchange 14 = .ok (.iload_n 2, 1) := by decide +kernel
theorem dX4_exchange_15 : decode cX4_exchange 15 = .ok (.ifCond .lt 12, 3) := by decide +kernel
theorem dX4_exchange_18 : decode cX4_exchange 18 = .ok (.iload_n 2, 1) := by decide +kernel
theorem dX4_exchange_19 : decode cX4_exchange 19 = .ok (.iconst 1, 1) := by decide +kernel
theorem dX4_exchange_20 : decode cX4_exchange 20 = .ok (.if_icmp .gt 7, 3) := by decide +kernel
theorem dX4_exchange_23 : decode cX4_exchange 23 = .ok (.iconst 1, 1) := by decide +kernel
theorem dX4_exchange_24 : decode cX4_exchange 24 = .ok (.goto 4, 3) := by decide +kernel
theorem dX4_exchange_27 : decode cX4_exchange 27 = .ok (.iconst 0, 1) := by decide +kernel
theorem dX4_exchange_28 : decode cX4_exchange 28 = .ok (.istore_n 3, 1) := by decide +kernel
theorem dX4_exchange_29 : decode cX4_exchange 29 = .ok (.iload_n 3, 1) := by decide +kernel
theorem dX4_exchange_30 : decode cX4_exchange 30 = .ok (.ifCond .eq 31, 3) := by decide +kernel
theorem dX4_exchange_33 : decode cX4_exchange 33 = .ok (.aload_n 0, 1) := by decide +kernel
theorem dX4_exchange_34 : decode cX4_exchange 34 = .ok (.getfield 41, 3) := by decide +kernel
theorem dX4_exchange_37 : decode cX4_exchange 37 = .ok (.iload_n 1, 1) := by decide +kernel
theorem dX4_exchange_38 : decode cX4_exchange 38 = .ok (.iaload, 1) := by decide +kernel
theorem dX4_exchange_39 : decode cX4_exchange 39 = .ok (.iload_n 1, 1) := by decide +kernel
theorem dX4_exchange_40 : decode cX4_exchange 40 = .ok (.iload_n 2, 1) := by decide +kernel
theorem dX4_exchange_41 : decode cX4_exchange 41 = .ok (.invokestatic 89, 3) := by decide +kernel
theorem dX4_exchange_44 : decode cX4_exchange 44 = .ok (.ifCond .ne 17, 3) := by decide +kernel
theorem dX4_exchange_47 : decode cX4_exchange 47 = .ok (.aload_n 0, 1) := by decide +kernel
theorem dX4_exchange_48 : decode cX4_exchange 48 = .ok (.getfield 44, 3) := by decide +kernel
theorem dX4_exchange_51 : decode cX4_exchange 51 = .ok (.iload_n 1, 1) := by decide +kernel
theorem dX4_exchange_52 : decode cX4_exchange 52 = .ok (.iaload, 1) := by decide +kernel
theorem dX4_exchange_53 : decode cX4_exchange 53 = .ok (.iload_n 1, 1) := by decide +kernel
theorem dX4_exchange_54 : decode cX4_exchange 54 = .ok (.iload_n 2, 1) := by decide +kernel
theorem dX4_exchange_55 : decode cX4_exchange 55 = .ok (.invokestatic 89, 3) := by decide +kernel
theorem dX4_exchange_58 : decode cX4_exchange 58 = .ok (.ifCond .eq 5, 3) := by decide +kernel
theorem dX4_exchange_61 : decode cX4_exchange 61 = .ok (.iconst 0, 1) := by decide +kernel
theorem dX4_exchange_62 : decode cX4_exchange 62 = .ok (.ireturn, 1) := by decide +kernel
theorem dX4_exchange_63 : decode cX4_exchange 63 = .ok (.aload_n 0, 1) := by decide +kernel
theorem dX4_exchange_64 : decode cX4_exchange 64 = .ok (.getfield 38, 3) := by decide +kernel
theorem dX4_exchange_67 : decode cX4_exchange 67 = .ok (.iconst 2, 1) := by decide +kernel
theorem dX4_exchange_68 : decode cX4_exchange 68 = .ok (.iload_n 1, 1) := by decide +kernel
theorem dX4_exchange_69 : decode cX4_exchange 69 = .ok (.imul, 1) := by decide +kernel
theorem dX4_exchange_70 : decode cX4_exchange 70 = .ok (.iload_n 2, 1) := by decide +kernel
theorem dX4_exchange_71 : decode cX4_exchange 71 = .ok (.iadd, 1) := by decide +kernel
theorem dX4_exchange_72 : decode cX4_exchange 72 = .ok (.aload_n 0, 1) := by decide +kernel
theorem dX4_exchange_73 : decode cX4_exchange 73 = .ok (.getfield 38, 3) := by decide +kernel
theorem dX4_exchange_76 : decode cX4_exchange 76 = .ok (.iconst 2, 1) := by decide +kernel
theorem dX4_exchange_77 : decode cX4_exchange 77 = .ok (.iload_n 1, 1) := by decide +kernel
theorem dX4_exchange_78 : decode cX4_exchange 78 = .ok (.imul, 1) := by decide +kernel
theorem dX4_exchange_79 : decode cX4_exchange 79 = .ok (.iload_n 2, 1) := by decide +kernel
theorem dX4_exchange_80 : decode cX4_exchange 80 = .ok (.iadd, 1) := by decide +kernel
theorem dX4_exchange_81 : decode cX4_exchange 81 = .ok (.baload, 1) := by decide +kernel
theorem dX4_exchange_82 : decode cX4_exchange 82 = .ok (.ifCond .ne 7, 3) := by decide +kernel
theorem dX4_exchange_85 : decode cX4_exchange 85 = .ok (.iconst 1, 1) := by decide +kernel
theorem dX4_exchange_86 : decode cX4_exchange 86 = .ok (.goto 4, 3) := by decide +kernel
theorem dX4_exchange_89 : decode cX4_exchange 89 = .ok (.iconst 0, 1) := by decide +kernel
theorem dX4_exchange_90 : decode cX4_exchange 90 = .ok (.bastore, 1) := by decide +kernel
theorem dX4_exchange_91 : decode cX4_exchange 91 = .ok (.iconst 1, 1) := by decide +kernel
theorem dX4_exchange_92 : decode cX4_exchange 92 = .ok (.ireturn, 1) := by decide +kernel
theorem dX4_car_0 : decode cX4_car 0 = .ok (.aload_n 0, 1) := by decide +kernel
theorem dX4_car_1 : decode cX4_car 1 = .ok (.iconst 0, 1) := by decide +kernel
theorem dX4_car_2 : decode cX4_car 2 = .ok (.putfield 71, 3) := by decide +kernel
theorem dX4_car_5 : decode cX4_car 5 = .ok (.iload_n 1, 1) := by decide +kernel
theorem dX4_car_6 : decode cX4_car 6 = .ok (.invokestatic 83, 3) := by decide +kernel
theorem dX4_car_9 : decode cX4_car 9 = .ok (.ifCond .eq 31, 3) := by decide +kernel
theorem dX4_car_12 : decode cX4_car 12 = .ok (.iload_n 2, 1) := by decide +kernel
theorem dX4_car_13 : decode cX4_car 13 = .ok (.ifCond .lt 27, 3) := by decide +kernel
theorem dX4_car_16 : decode cX4_car 16 = .ok (.iload_n 2, 1) := by decide +kernel
theorem dX4_car_17 : decode cX4_car 17 = .ok (.iconst 1, 1) := by decide +kernel
theorem dX4_car_18 : decode cX4_car 18 = .ok (.if_icmp .gt 22, 3) := by decide +kernel
theorem dX4_car_21 : decode cX4_car 21 = .ok (.aload_n 0, 1) := by decide +kernel
theorem dX4_car_22 : decode cX4_car 22 = .ok (.getfield 16, 3) := by decide +kernel
theorem dX4_car_25 : decode cX4_car 25 = .ok (.iload_n 1, 1) := by decide +kernel
theorem dX4_car_26 : decode cX4_car 26 = .ok (.baload, 1) := by decide +kernel
theorem dX4_car_27 : decode cX4_car 27 = .ok (.iload_n 2, 1) := by decide +kernel
theorem dX4_car_28 : decode cX4_car 28 = .ok (.iconst 1, 1) := by decide +kernel
theorem dX4_car_29 : decode cX4_car 29 = .ok (.if_icmp .ne 7, 3) := by decide +kernel
theorem dX4_car_32 : decode cX4_car 32 = .ok (.iconst 1, 1) := by decide +kernel
theorem dX4_car_33 : decode cX4_car 33 = .ok (.goto 4, 3) := by decide +kernel
theorem dX4_car_36 : decode cX4_car 36 = .ok (.iconst 0, 1) := by decide +kernel
theorem dX4_car_37 : decode cX4_car 37 = .ok (.if_icmp .ne 5, 3) := by decide +kernel
theorem dX4_car_40 : decode cX4_car 40 = .ok (.iconst 0, 1) := by decide +kernel
theorem dX4_car_41 : decode cX4_car 41 = .ok (.ireturn, 1) := by decide +kernel
theorem dX4_car_42 : decode cX4_car 42 = .ok (.aload_n 0, 1) := by decide +kernel
theorem dX4_car_43 : decode cX4_car 43 = .ok (.getfield 16, 3) := by decide +kernel
theorem dX4_car_46 : decode cX4_car 46 = .ok (.iload_n 1, 1) := by decide +kernel
theorem dX4_car_47 : decode cX4_car 47 = .ok (.iload_n 2, 1) := by decide +kernel
theorem dX4_car_48 : decode cX4_car 48 = .ok (.iconst 1, 1) := by decide +kernel
theorem dX4_car_49 : decode cX4_car 49 = .ok (.if_icmp .ne 7, 3) := by decide +kernel
theorem dX4_car_52 : decode cX4_car 52 = .ok (.iconst 1, 1) := by decide +kernel
theorem dX4_car_53 : decode cX4_car 53 = .ok (.goto 4, 3) := by decide +kernel
theorem dX4_car_56 : decode cX4_car 56 = .ok (.iconst 0, 1) := by decide +kernel
theorem dX4_car_57 : decode cX4_car 57 = .ok (.bastore, 1) := by decide +kernel
theorem dX4_car_58 : decode cX4_car 58 = .ok (.aload_n 0, 1) := by decide +kernel
theorem dX4_car_59 : decode cX4_car 59 = .ok (.getfield 23, 3) := by decide +kernel
theorem dX4_car_62 : decode cX4_car 62 = .ok (.iload_n 1, 1) := by decide +kernel
theorem dX4_car_63 : decode cX4_car 63 = .ok (.aload_n 0, 1) := by decide +kernel
theorem dX4_car_64 : decode cX4_car 64 = .ok (.getfield 23, 3) := by decide +kernel
theorem dX4_car_67 : decode cX4_car 67 = .ok (.iload_n 1, 1) := by decide +kernel
theorem dX4_car_68 : decode cX4_car 68 = .ok (.baload, 1) := by decide +kernel
theorem dX4_car_69 : decode cX4_car 69 = .ok (.ifCond .ne 25, 3) := by decide +kernel
theorem dX4_car_72 : decode cX4_car 72 = .ok (.iload_n 2, 1) := by decide +kernel
theorem dX4_car_73 : decode cX4_car 73 = .ok (.iconst 1, 1) := by decide +kernel
theorem dX4_car_74 : decode cX4_car 74 = .ok (.if_icmp .ne 24, 3) := by decide +kernel
theorem dX4_car_77 : decode cX4_car 77 = .ok (.aload_n 0, 1) := by decide +kernel
theorem dX4_car_78 : decode cX4_car 78 = .ok (.iload_n 1, 1) := by decide +kernel
theorem dX4_car_79 : decode cX4_car 79 = .ok (.invokevirtual 79, 3) := by decide +kernel
theorem dX4_car_82 : decode cX4_car 82 = .ok (.ifCond .ne 16, 3) := by decide +kernel
theorem dX4_car_85 : decode cX4_car 85 = .ok (.aload_n 0, 1) := by decide +kernel
theorem dX4_car_86 : decode cX4_car 86 = .ok (.iload_n 1, 1) := by decide +kernel
theorem dX4_car_87 : decode cX4_car 87 = .ok (.iconst 2, 1) := by decide +kernel
theorem dX4_car_88 : decode cX4_car 88 = .ok (.invokevirtual 75, 3) := by decide +kernel
theorem dX4_car_91 : decode cX4_car 91 = .ok (.ifCond .eq 7, 3) := by decide +kernel
theorem dX4_car_94 : decode cX4_car 94 = .ok (.iconst 1, 1) := by decide +kernel
theorem dX4_car_95 : decode cX4_car 95 = .ok (.goto 4, 3) := by decide +kernel
theorem dX4_car_98 : decode cX4_car 98 = .ok (.iconst 0, 1) := by decide +kernel
theorem dX4_car_99 : decode cX4_car 99 = .ok (.bastore, 1) := by decide +kernel
theorem dX4_car_100 : decode cX4_car 100 = .ok (.iconst 1, 1) := by decide +kernel
theorem dX4_car_101 : decode cX4_car 101 = .ok (.ireturn, 1) := by decide +kernel
theorem dX4_push_0 : decode cX4_push 0 = .ok (.aload_n 0, 1) := by decide +kernel
theorem dX4_push_1 : decode cX4_push 1 = .ok (.iconst 0, 1) := by decide +kernel
theorem dX4_push_2 : decode cX4_push 2 = .ok (.putfield 71, 3) := by decide +kernel
theorem dX4_push_5 : decode cX4_push 5 = .ok (.iload_n 1, 1) := by decide +kernel
theorem dX4_push_6 : decode cX4_push 6 = .ok (.invokestatic 83, 3) := by decide +kernel
theorem dX4_push_9 : decode cX4_push 9 = .ok (.ifCond .eq 12, 3) := by decide +kernel
theorem dX4_push_12 : decode cX4_push 12 = .ok (.aload_n 0, 1) := by decide +kernel
theorem dX4_push_13 : decode cX4_push 13 = .ok (.getfield 20, 3) := by decide +kernel
theorem dX4_push_16 : decode cX4_push 16 = .ok (.iload_n 1, 1) := by decide +kernel
theorem dX4_push_17 : decode cX4_push 17 = .ok (.baload, 1) := by decide +kernel
theorem dX4_push_18 : decode cX4_push 18 = .ok (.ifCond .eq 5, 3) := by decide +kernel
theorem dX4_push_21 : decode cX4_push 21 = .ok (.iconst 0, 1) := by decide +kernel
theorem dX4_push_22 : decode cX4_push 22 = .ok (.ireturn, 1) := by decide +kernel
theorem dX4_push_23 : decode cX4_push 23 = .ok (.aload_n 0, 1) := by decide +kernel
theorem dX4_push_24 : decode cX4_push 24 = .ok (.getfield 20, 3) := by decide +kernel
theorem dX4_push_27 : decode cX4_push 27 = .ok (.iload_n 1, 1) := by decide +kernel
theorem dX4_push_28 : decode cX4_push 28 = .ok (.iconst 1, 1) := by decide +kernel
theorem dX4_push_29 : decode cX4_push 29 = .ok (.bastore, 1) := by decide +kernel
theorem dX4_push_30 : decode cX4_push 30 = .ok (.iconst 1, 1) := by decide +kernel
theorem dX4_push_31 : decode cX4_push 31 = .ok (.ireturn, 1) := by decide +kernel
theorem dX4_stick_0 : decode cX4_stick 0 = .ok (.aload_n 0, 1) := by decide +kernel
theorem dX4_stick_1 : decode cX4_stick 1 = .ok (.iconst 0, 1) := by decide +kernel
theorem dX4_stick_2 : decode cX4_stick 2 = .ok (.putfield 71, 3) := by decide +kernel
theorem dX4_stick_5 : decode cX4_stick 5 = .ok (.iload_n 1, 1) := by decide +kernel
theorem dX4_stick_6 : decode cX4_stick 6 = .ok (.invokestatic 83, 3) := by decide +kernel
theorem dX4_stick_9 : decode cX4_stick 9 = .ok (.ifCond .eq 13, 3) := by decide +kernel
theorem dX4_stick_12 : decode cX4_stick 12 = .ok (.iload_n 2, 1) := by decide +kernel
theorem dX4_stick_13 : decode cX4_stick 13 = .ok (.iconst (-1), 1) := by decide +kernel
theorem dX4_stick_14 : decode cX4_stick 14 = .ok (.if_icmp .lt 8, 3) := by decide +kernel
theorem dX4_stick_17 : decode cX4_stick 17 = .ok (.iload_n 2, 1) := by decide +kernel
theorem dX4_stick_18 : decode cX4_stick 18 = .ok (.iconst 2, 1) := by decide +kernel
theorem dX4_stick_19 : decode cX4_stick 19 = .ok (.if_icmp .le 5, 3) := by decide +kernel
theorem dX4_stick_22 : decode cX4_stick 22 = .ok (.iconst 0, 1) := by decide +kernel
theorem dX4_stick_23 : decode cX4_stick 23 = .ok (.ireturn, 1) := by decide +kernel
theorem dX4_stick_24 : decode cX4_stick 24 = .ok (.aload_n 0, 1) := by decide +kernel
theorem dX4_stick_25 : decode cX4_stick 25 = .ok (.getfield 35, 3) := by decide +kernel
theorem dX4_stick_28 : decode cX4_stick 28 = .ok (.iload_n 1, 1) := by decide +kernel
theorem dX4_stick_29 : decode cX4_stick 29 = .ok (.iload_n 2, 1) := by decide +kernel
theorem dX4_stick_30 : decode cX4_stick 30 = .ok (.iastore, 1) := by decide +kernel
theorem dX4_stick_31 : decode cX4_stick 31 = .ok (.iconst 1, 1) := by decide +kernel
theorem dX4_stick_32 : decode cX4_stick 32 = .ok (.ireturn, 1) := by decide +kernel
theorem dX4_first_0 : decode cX4_first 0 = .ok (.iconst 4, 1) := by decide +kernel
theorem dX4_first_1 : decode cX4_first 1 = .ok (.iload_n 1, 1) := by decide +kernel
theorem dX4_first_2 : decode cX4_first 2 = .ok (.imul, 1) := by decide +kernel
theorem dX4_first_3 : decode cX4_first 3 = .ok (.iconst 2, 1) := by decide +kernel
theorem dX4_first_4 : decode cX4_first 4 = .ok (.iload_n 2, 1) := by decide +kernel
theorem dX4_first_5 : decode cX4_first 5 = .ok (.imul, 1) := by decide +kernel
theorem dX4_first_6 : decode cX4_first 6 = .ok (.iadd, 1) := by decide +kernel
theorem dX4_first_7 : decode cX4_first 7 = .ok (.aload_n 0, 1) := by decide +kernel
theorem dX4_first_8 : decode cX4_first 8 = .ok (.getfield 38, 3) := by decide +kernel
theorem dX4_first_11 : decode cX4_first 11 = .ok (.iconst 2, 1) := by decide +kernel
theorem dX4_first_12 : decode cX4_first 12 = .ok (.iload_n 1, 1) := by decide +kernel
theorem dX4_first_13 : decode cX4_first 13 = .ok (.imul, 1) := by decide +kernel
theorem dX4_first_14 : decode cX4_first 14 = .ok (.iload_n 2, 1) := by decide +kernel
theorem dX4_first_15 : decode cX4_first 15 = .ok (.iadd, 1) := by decide +kernel
theorem dX4_first_16 : decode cX4_first 16 = .ok (.baload, 1) := by decide +kernel
theorem dX4_first_17 : decode cX4_first 17 = .ok (.ifCond .eq 7, 3) := by decide +kernel
theorem dX4_first_20 : decode cX4_first 20 = .ok (.iconst 1, 1) := by decide +kernel
theorem dX4_first_21 : decode cX4_first 21 = .ok (.goto 4, 3) := by decide +kernel
theorem dX4_first_24 : decode cX4_first 24 = .ok (.iconst 0, 1) := by decide +kernel
theorem dX4_first_25 : decode cX4_first 25 = .ok (.iadd, 1) := by decide +kernel
theorem dX4_first_26 : decode cX4_first 26 = .ok (.ireturn, 1) := by decide +kernel
theorem dX4_second_0 : decode cX4_second 0 = .ok (.iconst 4, 1) := by decide +kernel
theorem dX4_second_1 : decode cX4_second 1 = .ok (.iload_n 1, 1) := by decide +kernel
theorem dX4_second_2 : decode cX4_second 2 = .ok (.imul, 1) := by decide +kernel
theorem dX4_second_3 : decode cX4_second 3 = .ok (.iconst 2, 1) := by decide +kernel
theorem dX4_second_4 : decode cX4_second 4 = .ok (.iload_n 2, 1) := by decide +kernel
theorem dX4_second_5 : decode cX4_second 5 = .ok (.imul, 1) := by decide +kernel
theorem dX4_second_6 : decode cX4_second 6 = .ok (.iadd, 1) := by decide +kernel
theorem dX4_second_7 : decode cX4_second 7 = .ok (.aload_n 0, 1) := by decide +kernel
theorem dX4_second_8 : decode cX4_second 8 = .ok (.getfield 38, 3) := by decide +kernel
theorem dX4_second_11 : decode cX4_second 11 = .ok (.iconst 2, 1) := by decide +kernel
theorem dX4_second_12 : decode cX4_second 12 = .ok (.iload_n 1, 1) := by decide +kernel
theorem dX4_second_13 : decode cX4_second 13 = .ok (.imul, 1) := by decide +kernel
theorem dX4_second_14 : decode cX4_second 14 = .ok (.iload_n 2, 1) := by decide +kernel
theorem dX4_second_15 : decode cX4_second 15 = .ok (.iadd, 1) := by decide +kernel
theorem dX4_second_16 : decode cX4_second 16 = .ok (.baload, 1) := by decide +kernel
theorem dX4_second_17 : decode cX4_second 17 = .ok (.ifCond .eq 7, 3) := by decide +kernel
theorem dX4_second_20 : decode cX4_second 20 = .ok (.iconst 0, 1) := by decide +kernel
theorem dX4_second_21 : decode cX4_second 21 = .ok (.goto 4, 3) := by decide +kernel
theorem dX4_second_24 : decode cX4_second 24 = .ok (.iconst 1, 1) := by decide +kernel
theorem dX4_second_25 : decode cX4_second 25 = .ok (.iadd, 1) := by decide +kernel
theorem dX4_second_26 : decode cX4_second 26 = .ok (.ireturn, 1) := by decide +kernel
theorem dX4_calledOf_0 : decode cX4_calledOf 0 = .ok (.aload_n 0, 1) := by decide +kernel
theorem dX4_calledOf_1 : decode cX4_calledOf 1 = .ok (.iload_n 1, 1) := by decide +kernel
theorem dX4_calledOf_2 : decode cX4_calledOf 2 = .ok (.iload_n 2, 1) := by decide +kernel
theorem dX4_calledOf_3 : decode cX4_calledOf 3 = .ok (.invokevirtual 93, 3) := by decide +kernel
theorem dX4_calledOf_6 : decode cX4_calledOf 6 = .ok (.istore_n 3, 1) := by decide +kernel
theorem dX4_calledOf_7 : decode cX4_calledOf 7 = .ok (.aload_n 0, 1) := by decide +kernel
theorem dX4_calledOf_8 : decode cX4_calledOf 8 = .ok (.iload_n 1, 1) := by decide +kernel
theorem dX4_calledOf_9 : decode cX4_calledOf 9 = .ok (.iload_n 2, 1) := by decide +kernel
theorem dX4_calledOf_10 : decode cX4_calledOf 10 = .ok (.invokevirtual 97, 3) := by decide +kernel
theorem dX4_calledOf_13 : decode cX4_calledOf 13 = .ok (.istore 4, 2) := by decide +kernel
theorem dX4_calledOf_15 : decode cX4_calledOf 15 = .ok (.aload_n 0, 1) := by decide +kernel
theorem dX4_calledOf_16 : decode cX4_calledOf 16 = .ok (.iload_n 3, 1) := by decide +kernel
theorem dX4_calledOf_17 : decode cX4_calledOf 17 = .ok (.invokevirtual 100, 3) := by decide +kernel
theorem dX4_calledOf_20 : decode cX4_calledOf 20 = .ok (.ifCond .eq 7, 3) := by decide +kernel
theorem dX4_calledOf_23 : decode cX4_calledOf 23 = .ok (.iload_n 3, 1) := by decide +kernel
theorem dX4_calledOf_24 : decode cX4_calledOf 24 = .ok (.goto 18, 3) := by decide +kernel
theorem dX4_calledOf_27 : decode cX4_calledOf 27 = .ok (.aload_n 0, 1) := by decide +kernel
theorem dX4_calledOf_28 : decode cX4_calledOf 28 = .ok (.iload 4, 2) := by decide +kernel
theorem dX4_calledOf_30 : decode cX4_calledOf 30 = .ok (.invokevirtual 100, 3) := by decide +kernel
theorem dX4_calledOf_33 : decode cX4_calledOf 33 = .ok (.ifCond .eq 8, 3) := by decide +kernel
theorem dX4_calledOf_36 : decode cX4_calledOf 36 = .ok (.iload 4, 2) := by decide +kernel
theorem dX4_calledOf_38 : decode cX4_calledOf 38 = .ok (.goto 4, 3) := by decide +kernel
theorem dX4_calledOf_41 : decode cX4_calledOf 41 = .ok (.iconst (-1), 1) := by decide +kernel
theorem dX4_calledOf_42 : decode cX4_calledOf 42 = .ok (.ireturn, 1) := by decide +kernel
theorem dX4_wait0_0 : decode cX4_wait0 0 = .ok (.iconst 0, 1) := by decide +kernel
theorem dX4_wait0_1 : decode cX4_wait0 1 = .ok (.istore_n 1, 1) := by decide +kernel
theorem dX4_wait0_2 : decode cX4_wait0 2 = .ok (.iload_n 1, 1) := by decide +kernel
theorem dX4_wait0_3 : decode cX4_wait0 3 = .ok (.bipush 8, 2) := by decide +kernel
theorem dX4_wait0_5 : decode cX4_wait0 5 = .ok (.if_icmp .ge 71, 3) := by decide +kernel
theorem dX4_wait0_8 : decode cX4_wait0 8 = .ok (.aload_n 0, 1) := by decide +kernel
theorem dX4_wait0_9 : decode cX4_wait0 9 = .ok (.getfield 26, 3) := by decide +kernel
theorem dX4_wait0_12 : decode cX4_wait0 12 = .ok (.iload_n 1, 1) := by decide +kernel
theorem dX4_wait0_13 : decode cX4_wait0 13 = .ok (.aload_n 0, 1) := by decide +kernel
theorem dX4_wait0_14 : decode cX4_wait0 14 = .ok (.iload_n 1, 1) := by decide +kernel
theorem dX4_wait0_15 : decode cX4_wait0 15 = .ok (.invokevirtual 100, 3) := by decide +kernel
theorem dX4_wait0_18 : decode cX4_wait0 18 = .ok (.ifCond .eq 14, 3) := by decide +kernel
theorem dX4_wait0_21 : decode cX4_wait0 21 = .ok (.aload_n 0, 1) := by decide +kernel
theorem dX4_wait0_22 : decode cX4_wait0 22 = .ok (.getfield 26, 3) := by decide +kernel
theorem dX4_wait0_25 : decode cX4_wait0 25 = .ok (.iload_n 1, 1) := by decide +kernel
theorem dX4_wait0_26 : decode cX4_wait0 26 = .ok (.iaload, 1) := by decide +kernel
theorem dX4_wait0_27 : decode cX4_wait0 27 = .ok (.iconst 1, 1) := by decide +kernel
theorem dX4_wait0_28 : decode cX4_wait0 28 = .ok (.iadd, 1) := by decide +kernel
theorem dX4_wait0_29 : decode cX4_wait0 29 = .ok (.goto 4, 3) := by decide +kernel
theorem dX4_wait0_32 : decode cX4_wait0 32 = .ok (.iconst 0, 1) := by decide +kernel
theorem dX4_wait0_33 : decode cX4_wait0 33 = .ok (.iastore, 1) := by decide +kernel
theorem dX4_wait0_34 : decode cX4_wait0 34 = .ok (.aload_n 0, 1) := by decide +kernel
theorem dX4_wait0_35 : decode cX4_wait0 35 = .ok (.getfield 29, 3) := by decide +kernel
theorem dX4_wait0_38 : decode cX4_wait0 38 = .ok (.iload_n 1, 1) := by decide +kernel
theorem dX4_wait0_39 : decode cX4_wait0 39 = .ok (.aload_n 0, 1) := by decide +kernel
theorem dX4_wait0_40 : decode cX4_wait0 40 = .ok (.getfield 26, 3) := by decide +kernel
theorem dX4_wait0_43 : decode cX4_wait0 43 = .ok (.iload_n 1, 1) := by decide +kernel
theorem dX4_wait0_44 : decode cX4_wait0 44 = .ok (.iaload, 1) := by decide +kernel
theorem dX4_wait0_45 : decode cX4_wait0 45 = .ok (.aload_n 0, 1) := by decide +kernel
theorem dX4_wait0_46 : decode cX4_wait0 46 = .ok (.getfield 29, 3) := by decide +kernel
theorem dX4_wait0_49 : decode cX4_wait0 49 = .ok (.iload_n 1, 1) := by decide +kernel
theorem dX4_wait0_50 : decode cX4_wait0 50 = .ok (.iaload, 1) := by decide +kernel
theorem dX4_wait0_51 : decode cX4_wait0 51 = .ok (.if_icmp .le 12, 3) := by decide +kernel
theorem dX4_wait0_54 : decode cX4_wait0 54 = .ok (.aload_n 0, 1) := by decide +kernel
theorem dX4_wait0_55 : decode cX4_wait0 55 = .ok (.getfield 26, 3) := by decide +kernel
theorem dX4_wait0_58 : decode cX4_wait0 58 = .ok (.iload_n 1, 1) := by decide +kernel
theorem dX4_wait0_59 : decode cX4_wait0 59 = .ok (.iaload, 1) := by decide +kernel
theorem dX4_wait0_60 : decode cX4_wait0 60 = .ok (.goto 9, 3) := by decide +kernel
theorem dX4_wait0_63 : decode cX4_wait0 63 = .ok (.aload_n 0, 1) := by decide +kernel
theorem dX4_wait0_64 : decode cX4_wait0 64 = .ok (.getfield 29, 3) := by decide +kernel
theorem dX4_wait0_67 : decode cX4_wait0 67 = .ok (.iload_n 1, 1) := by decide +kernel
theorem dX4_wait0_68 : decode cX4_wait0 68 = .ok (.iaload, 1) := by decide +kernel
theorem dX4_wait0_69 : decode cX4_wait0 69 = .ok (.iastore, 1) := by decide +kernel
theorem dX4_wait0_70 : decode cX4_wait0 70 = .ok (.iinc 1 1, 3) := by decide +kernel
theorem dX4_wait0_73 : decode cX4_wait0 73 = .ok (.goto (-71), 3) := by decide +kernel
theorem dX4_wait0_76 : decode cX4_wait0 76 = .ok (.return_, 1) := by decide +kernel
theorem dX4_goDark_0 : decode cX4_goDark 0 = .ok (.aload_n 0, 1) := by decide +kernel
theorem dX4_goDark_1 : decode cX4_goDark 1 = .ok (.getfield 41, 3) := by decide +kernel
theorem dX4_goDark_4 : decode cX4_goDark 4 = .ok (.iload_n 1, 1) := by decide +kernel
theorem dX4_goDark_5 : decode cX4_goDark 5 = .ok (.iconst (-1), 1) := by decide +kernel
theorem dX4_goDark_6 : decode cX4_goDark 6 = .ok (.iastore, 1) := by decide +kernel
theorem dX4_goDark_7 : decode cX4_goDark 7 = .ok (.aload_n 0, 1) := by decide +kernel
theorem dX4_goDark_8 : decode cX4_goDark 8 = .ok (.getfield 47, 3) := by decide +kernel
theorem dX4_goDark_11 : decode cX4_goDark 11 = .ok (.iload_n 1, 1) := by decide +kernel
theorem dX4_goDark_12 : decode cX4_goDark 12 = .ok (.iconst 0, 1) := by decide +kernel
theorem dX4_goDark_13 : decode cX4_goDark 13 = .ok (.iastore, 1) := by decide +kernel
theorem dX4_goDark_14 : decode cX4_goDark 14 = .ok (.aload_n 0, 1) := by decide +kernel
theorem dX4_goDark_15 : decode cX4_goDark 15 = .ok (.getfield 50, 3) := by decide +kernel
theorem dX4_goDark_18 : decode cX4_goDark 18 = .ok (.iload_n 1, 1) := by decide +kernel
theorem dX4_goDark_19 : decode cX4_goDark 19 = .ok (.iconst 0, 1) := by decide +kernel
theorem dX4_goDark_20 : decode cX4_goDark 20 = .ok (.iastore, 1) := by decide +kernel
theorem dX4_goDark_21 : decode cX4_goDark 21 = .ok (.aload_n 0, 1) := by decide +kernel
theorem dX4_goDark_22 : decode cX4_goDark 22 = .ok (.getfield 59, 3) := by decide +kernel
theorem dX4_goDark_25 : decode cX4_goDark 25 = .ok (.iload_n 1, 1) := by decide +kernel
theorem dX4_goDark_26 : decode cX4_goDark 26 = .ok (.iconst 0, 1) := by decide +kernel
theorem dX4_goDark_27 : decode cX4_goDark 27 = .ok (.iastore, 1) := by decide +kernel
theorem dX4_goDark_28 : decode cX4_goDark 28 = .ok (.aload_n 0, 1) := by decide +kernel
theorem dX4_goDark_29 : decode cX4_goDark 29 = .ok (.getfield 62, 3) := by decide +kernel
theorem dX4_goDark_32 : decode cX4_goDark 32 = .ok (.iload_n 1, 1) := by decide +kernel
theorem dX4_goDark_33 : decode cX4_goDark 33 = .ok (.iconst 0, 1) := by decide +kernel
theorem dX4_goDark_34 : decode cX4_goDark 34 = .ok (.iastore, 1) := by decide +kernel
theorem dX4_goDark_35 : decode cX4_goDark 35 = .ok (.return_, 1) := by decide +kernel
theorem dX4_ageRing_0 : decode cX4_ageRing 0 = .ok (.aload_n 0, 1) := by decide +kernel
theorem dX4_ageRing_1 : decode cX4_ageRing 1 = .ok (.getfield 41, 3) := by decide +kernel
theorem dX4_ageRing_4 : decode cX4_ageRing 4 = .ok (.iload_n 1, 1) := by decide +kernel
theorem dX4_ageRing_5 : decode cX4_ageRing 5 = .ok (.iaload, 1) := by decide +kernel
theorem dX4_ageRing_6 : decode cX4_ageRing 6 = .ok (.istore_n 2, 1) := by decide +kernel
theorem dX4_ageRing_7 : decode cX4_ageRing 7 = .ok (.aload_n 0, 1) := by decide +kernel
theorem dX4_ageRing_8 : decode cX4_ageRing 8 = .ok (.getfield 47, 3) := by decide +kernel
theorem dX4_ageRing_11 : decode cX4_ageRing 11 = .ok (.iload_n 1, 1) := by decide +kernel
theorem dX4_ageRing_12 : decode cX4_ageRing 12 = .ok (.iaload, 1) := by decide +kernel
theorem dX4_ageRing_13 : decode cX4_ageRing 13 = .ok (.ifCond .ne 4, 3) := by decide +kernel
theorem dX4_ageRing_16 : decode cX4_ageRing 16 = .ok (.return_, 1) := by decide +kernel
theorem dX4_ageRing_17 : decode cX4_ageRing 17 = .ok (.aload_n 0, 1) := by decide +kernel
theorem dX4_ageRing_18 : decode cX4_ageRing 18 = .ok (.getfield 50, 3) := by decide +kernel
theorem dX4_ageRing_21 : decode cX4_ageRing 21 = .ok (.iload_n 1, 1) := by decide +kernel
theorem dX4_ageRing_22 : decode cX4_ageRing 22 = .ok (.dup2, 1) := by decide +kernel
theorem dX4_ageRing_23 : decode cX4_ageRing 23 = .ok (.iaload, 1) := by decide +kernel
theorem dX4_ageRing_24 : decode cX4_ageRing 24 = .ok (.iconst 1, 1) := by decide +kernel
theorem dX4_ageRing_25 : decode cX4_ageRing 25 = .ok (.iadd, 1) := by decide +kernel
theorem dX4_ageRing_26 : decode cX4_ageRing 26 = .ok (.iastore, 1) := by decide +kernel
theorem dX4_ageRing_27 : decode cX4_ageRing 27 = .ok (.aload_n 0, 1) := by decide +kernel
