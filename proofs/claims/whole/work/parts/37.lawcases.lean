-- THE LAW'S CASES
section LC
variable {p : Program} {l : Launch} {e : Env} {s : State} {m : MethodId} {args : Array Value} {below : List Frame} {meth : Method} {c : Code} {cells slots : Nat} {D : va_G} {z : Nat → ClassId} {A : Nat → Prop} {Q : State → Prop} {a b : Nat → Nat} {b0 L i : Nat} {xs : Nat → Int32} {u v : St}
theorem lc_set (C : jk_C p room_1 s m args c cells slots cL_law 4 RL TT D clA (tyl z) A) (hX : va_X b0 L xs s s.heap) (hbl : b0 < s.heap.size) (hbA : ¬ A b0) (hL : L ≤ 2048) (hi : i + 4 ≤ L) (h : RelT u v)
    (kk : ∀ u1 v1 : St, RelT u1 v1 → JJ p l e room_1 s m args below meth c cells slots 4 D clA (wL z a b) A Q 432 (lvL a b b0 i) (u1, v1) []) :
    JJ p l e room_1 s m args below meth c cells slots 4 D clA (wL z a b) A Q 96 (lvL a b b0 i) (u, v) [] := by
  obtain ⟨⟨he, hr⟩, g1, g2⟩ := op_set h (xs (i + 1)) (xs (i + 2)) (xs (i + 3))
  refine j_aload_n C 2 dL_law_96 rfl ?_
  refine j_aload_n C 3 dL_law_97 rfl ?_
  refine j_iload_n C 0 dL_law_98 rfl ?_
  refine j_iconst C 1 dL_law_99 ic_1 ?_
  refine j_iadd C dL_law_100 ?_
  refine j_sld C hX hbl hbA (i + 1) (nI_add i 1) (by omega) (by omega) dL_law_101 ?_
  refine j_aload_n C 3 dL_law_102 rfl ?_
  refine j_iload_n C 0 dL_law_103 rfl ?_
  refine j_iconst C 2 dL_law_104 ic_2 ?_
  refine j_iadd C dL_law_105 ?_
  refine j_sld C hX hbl hbA (i + 2) (nI_add i 2) (by omega) (by omega) dL_law_106 ?_
  refine j_aload_n C 3 dL_law_107 rfl ?_
  refine j_iload_n C 0 dL_law_108 rfl ?_
  refine j_iconst C 3 dL_law_109 ic_3 ?_
  refine j_iadd C dL_law_110 ?_
  refine j_sld C hX hbl hbA (i + 3) (nI_add i 3) (by omega) (by omega) dL_law_111 ?_
  refine jl_cls (n := 3) C rfl (c_set l D z a u (xs (i + 1)) (xs (i + 2)) (xs (i + 3)) g1) (jk_GV TT_good (jk_4 vl_3_set vi_3_set vs_3_set qi_3) vk_3_set) (by decide +kernel) ⟨⟨rfl, rfl⟩, by decide, by decide⟩ 0 3 rfl rfl rfl rfl rfl (Nat.le_of_ble_eq_true rfl) dL_law_112 ?_
  refine j_aload_n C 1 dL_law_115 rfl ?_
  refine j_aload_n C 3 dL_law_116 rfl ?_
  refine j_iload_n C 0 dL_law_117 rfl ?_
  refine j_iconst C 1 dL_law_118 ic_1 ?_
  refine j_iadd C dL_law_119 ?_
  refine j_sld C hX hbl hbA (i + 1) (nI_add i 1) (by omega) (by omega) dL_law_120 ?_
  refine j_aload_n C 3 dL_law_121 rfl ?_
  refine j_iload_n C 0 dL_law_122 rfl ?_
  refine j_iconst C 2 dL_law_123 ic_2 ?_
  refine j_iadd C dL_law_124 ?_
  refine j_sld C hX hbl hbA (i + 2) (nI_add i 2) (by omega) (by omega) dL_law_125 ?_
  refine j_aload_n C 3 dL_law_126 rfl ?_
  refine j_iload_n C 0 dL_law_127 rfl ?_
  refine j_iconst C 3 dL_law_128 ic_3 ?_
  refine j_iadd C dL_law_129 ?_
  refine j_sld C hX hbl hbA (i + 3) (nI_add i 3) (by omega) (by omega) dL_law_130 ?_
  refine jl_ref (n := 3) C rfl (c_m_set l D z b v (xs (i + 1)) (xs (i + 2)) (xs (i + 3)) g2) (jk_GV TT_good (jk_4 vl_4_set vi_4_set vs_4_set qi_4) vk_4_set) (by decide +kernel) ⟨⟨rfl, rfl⟩, by decide, by decide⟩ 0 4 rfl rfl rfl rfl rfl (Nat.le_of_ble_eq_true rfl) dL_law_131 ?_
  exact j_icmp_eq C 432 dL_law_134 rfl (fun _ => kk _ _ hr) (fun q => absurd he q)
theorem lc_mode (C : jk_C p room_1 s m args c cells slots cL_law 4 RL TT D clA (tyl z) A) (hX : va_X b0 L xs s s.heap) (hbl : b0 < s.heap.size) (hbA : ¬ A b0) (hL : L ≤ 2048) (hi : i + 4 ≤ L) (h : RelT u v)
    (kk : ∀ u1 v1 : St, RelT u1 v1 → JJ p l e room_1 s m args below meth c cells slots 4 D clA (wL z a b) A Q 432 (lvL a b b0 i) (u1, v1) []) :
    JJ p l e room_1 s m args below meth c cells slots 4 D clA (wL z a b) A Q 139 (lvL a b b0 i) (u, v) [] := by
  obtain ⟨⟨he, hr⟩, g1, g2⟩ := op_mode h (xs (i + 1)) (xs (i + 2))
  refine j_aload_n C 2 dL_law_139 rfl ?_
  refine j_aload_n C 3 dL_law_140 rfl ?_
  refine j_iload_n C 0 dL_law_141 rfl ?_
  refine j_iconst C 1 dL_law_142 ic_1 ?_
  refine j_iadd C dL_law_143 ?_
  refine j_sld C hX hbl hbA (i + 1) (nI_add i 1) (by omega) (by omega) dL_law_144 ?_
  refine j_aload_n C 3 dL_law_145 rfl ?_
  refine j_iload_n C 0 dL_law_146 rfl ?_
  refine j_iconst C 2 dL_law_147 ic_2 ?_
  refine j_iadd C dL_law_148 ?_
  refine j_sld C hX hbl hbA (i + 2) (nI_add i 2) (by omega) (by omega) dL_law_149 ?_
  refine jl_cls (n := 2) C rfl (c_mode l D z a u (xs (i + 1)) (xs (i + 2)) g1) (jk_GV TT_good (jk_4 vl_3_mode vi_3_mode vs_3_mode qi_3) vk_3_mode) (by decide +kernel) ⟨⟨rfl, rfl⟩, by decide, by decide⟩ 0 3 rfl rfl rfl rfl rfl (Nat.le_of_ble_eq_true rfl) dL_law_150 ?_
  refine j_aload_n C 1 dL_law_153 rfl ?_
  refine j_aload_n C 3 dL_law_154 rfl ?_
  refine j_iload_n C 0 dL_law_155 rfl ?_
  refine j_iconst C 1 dL_law_156 ic_1 ?_
  refine j_iadd C dL_law_157 ?_
  refine j_sld C hX hbl hbA (i + 1) (nI_add i 1) (by omega) (by omega) dL_law_158 ?_
  refine j_aload_n C 3 dL_law_159 rfl ?_
  refine j_iload_n C 0 dL_law_160 rfl ?_
  refine j_iconst C 2 dL_law_161 ic_2 ?_
  refine j_iadd C dL_law_162 ?_
  refine j_sld C hX hbl hbA (i + 2) (nI_add i 2) (by omega) (by omega) dL_law_163 ?_
  refine jl_ref (n := 2) C rfl (c_m_mode l D z b v (xs (i + 1)) (xs (i + 2)) g2) (jk_GV TT_good (jk_4 vl_4_mode vi_4_mode vs_4_mode qi_4) vk_4_mode) (by decide +kernel) ⟨⟨rfl, rfl⟩, by decide, by decide⟩ 0 4 rfl rfl rfl rfl rfl (Nat.le_of_ble_eq_true rfl) dL_law_164 ?_
  exact j_icmp_eq C 432 dL_law_167 rfl (fun _ => kk _ _ hr) (fun q => absurd he q)
theorem lc_exchange (C : jk_C p room_1 s m args c cells slots cL_law 4 RL TT D clA (tyl z) A) (hX : va_X b0 L xs s s.heap) (hbl : b0 < s.heap.size) (hbA : ¬ A b0) (hL : L ≤ 2048) (hi : i + 4 ≤ L) (h : RelT u v)
    (kk : ∀ u1 v1 : St, RelT u1 v1 → JJ p l e room_1 s m args below meth c cells slots 4 D clA (wL z a b) A Q 432 (lvL a b b0 i) (u1, v1) []) :
    JJ p l e room_1 s m args below meth c cells slots 4 D clA (wL z a b) A Q 172 (lvL a b b0 i) (u, v) [] := by
  obtain ⟨⟨he, hr⟩, g1, g2⟩ := op_exchange h (xs (i + 1)) (xs (i + 2))
  refine j_aload_n C 2 dL_law_172 rfl ?_
  refine j_aload_n C 3 dL_law_173 rfl ?_
  refine j_iload_n C 0 dL_law_174 rfl ?_
  refine j_iconst C 1 dL_law_175 ic_1 ?_
  refine j_iadd C dL_law_176 ?_
  refine j_sld C hX hbl hbA (i + 1) (nI_add i 1) (by omega) (by omega) dL_law_177 ?_
  refine j_aload_n C 3 dL_law_178 rfl ?_
  refine j_iload_n C 0 dL_law_179 rfl ?_
  refine j_iconst C 2 dL_law_180 ic_2 ?_
  refine j_iadd C dL_law_181 ?_
  refine j_sld C hX hbl hbA (i + 2) (nI_add i 2) (by omega) (by omega) dL_law_182 ?_
  refine jl_cls (n := 2) C rfl (c_exchange l D z a u (xs (i + 1)) (xs (i + 2)) g1) (jk_GV TT_good (jk_4 vl_3_exchange vi_3_exchange vs_3_exchange qi_3) vk_3_exchange) (by decide +kernel) ⟨⟨rfl, rfl⟩, by decide, by decide⟩ 0 3 rfl rfl rfl rfl rfl (Nat.le_of_ble_eq_true rfl) dL_law_183 ?_
  refine j_aload_n C 1 dL_law_186 rfl ?_
  refine j_aload_n C 3 dL_law_187 rfl ?_
  refine j_iload_n C 0 dL_law_188 rfl ?_
  refine j_iconst C 1 dL_law_189 ic_1 ?_
  refine j_iadd C dL_law_190 ?_
  refine j_sld C hX hbl hbA (i + 1) (nI_add i 1) (by omega) (by omega) dL_law_191 ?_
  refine j_aload_n C 3 dL_law_192 rfl ?_
  refine j_iload_n C 0 dL_law_193 rfl ?_
  refine j_iconst C 2 dL_law_194 ic_2 ?_
  refine j_iadd C dL_law_195 ?_
  refine j_sld C hX hbl hbA (i + 2) (nI_add i 2) (by omega) (by omega) dL_law_196 ?_
  refine jl_ref (n := 2) C rfl (c_m_exchange l D z b v (xs (i + 1)) (xs (i + 2)) g2) (jk_GV TT_good (jk_4 vl_4_exchange vi_4_exchange vs_4_exchange qi_4) vk_4_exchange) (by decide +kernel) ⟨⟨rfl, rfl⟩, by decide, by decide⟩ 0 4 rfl rfl rfl rfl rfl (Nat.le_of_ble_eq_true rfl) dL_law_197 ?_
  exact j_icmp_eq C 432 dL_law_200 rfl (fun _ => kk _ _ hr) (fun q => absurd he q)
theorem lc_car (C : jk_C p room_1 s m args c cells slots cL_law 4 RL TT D clA (tyl z) A) (hX : va_X b0 L xs s s.heap) (hbl : b0 < s.heap.size) (hbA : ¬ A b0) (hL : L ≤ 2048) (hi : i + 4 ≤ L) (h : RelT u v)
    (kk : ∀ u1 v1 : St, RelT u1 v1 → JJ p l e room_1 s m args below meth c cells slots 4 D clA (wL z a b) A Q 432 (lvL a b b0 i) (u1, v1) []) :
    JJ p l e room_1 s m args below meth c cells slots 4 D clA (wL z a b) A Q 205 (lvL a b b0 i) (u, v) [] := by
  obtain ⟨⟨he, hr⟩, g1, g2⟩ := op_car h (xs (i + 1)) (xs (i + 2))
  refine j_aload_n C 2 dL_law_205 rfl ?_
  refine j_aload_n C 3 dL_law_206 rfl ?_
  refine j_iload_n C 0 dL_law_207 rfl ?_
  refine j_iconst C 1 dL_law_208 ic_1 ?_
  refine j_iadd C dL_law_209 ?_
  refine j_sld C hX hbl hbA (i + 1) (nI_add i 1) (by omega) (by omega) dL_law_210 ?_
  refine j_aload_n C 3 dL_law_211 rfl ?_
  refine j_iload_n C 0 dL_law_212 rfl ?_
  refine j_iconst C 2 dL_law_213 ic_2 ?_
  refine j_iadd C dL_law_214 ?_
  refine j_sld C hX hbl hbA (i + 2) (nI_add i 2) (by omega) (by omega) dL_law_215 ?_
  refine jl_cls (n := 2) C rfl (c_car l D z a u (xs (i + 1)) (xs (i + 2)) g1) (jk_GV TT_good (jk_4 vl_3_car vi_3_car vs_3_car qi_3) vk_3_car) (by decide +kernel) ⟨⟨rfl, rfl⟩, by decide, by decide⟩ 0 3 rfl rfl rfl rfl rfl (Nat.le_of_ble_eq_true rfl) dL_law_216 ?_
  refine j_aload_n C 1 dL_law_219 rfl ?_
  refine j_aload_n C 3 dL_law_220 rfl ?_
  refine j_iload_n C 0 dL_law_221 rfl ?_
  refine j_iconst C 1 dL_law_222 ic_1 ?_
  refine j_iadd C dL_law_223 ?_
  refine j_sld C hX hbl hbA (i + 1) (nI_add i 1) (by omega) (by omega) dL_law_224 ?_
  refine j_aload_n C 3 dL_law_225 rfl ?_
  refine j_iload_n C 0 dL_law_226 rfl ?_
  refine j_iconst C 2 dL_law_227 ic_2 ?_
  refine j_iadd C dL_law_228 ?_
  refine j_sld C hX hbl hbA (i + 2) (nI_add i 2) (by omega) (by omega) dL_law_229 ?_
  refine jl_ref (n := 2) C rfl (c_m_car l D z b v (xs (i + 1)) (xs (i + 2)) g2) (jk_GV TT_good (jk_4 vl_4_car vi_4_car vs_4_car qi_4) vk_4_car) (by decide +kernel) ⟨⟨rfl, rfl⟩, by decide, by decide⟩ 0 4 rfl rfl rfl rfl rfl (Nat.le_of_ble_eq_true rfl) dL_law_230 ?_
  exact j_icmp_eq C 432 dL_law_233 rfl (fun _ => kk _ _ hr) (fun q => absurd he q)
theorem lc_push (C : jk_C p room_1 s m args c cells slots cL_law 4 RL TT D clA (tyl z) A) (hX : va_X b0 L xs s s.heap) (hbl : b0 < s.heap.size) (hbA : ¬ A b0) (hL : L ≤ 2048) (hi : i + 4 ≤ L) (h : RelT u v)
    (kk : ∀ u1 v1 : St, RelT u1 v1 → JJ p l e room_1 s m args below meth c cells slots 4 D clA (wL z a b) A Q 432 (lvL a b b0 i) (u1, v1) []) :
    JJ p l e room_1 s m args below meth c cells slots 4 D clA (wL z a b) A Q 238 (lvL a b b0 i) (u, v) [] := by
  obtain ⟨⟨he, hr⟩, g1, g2⟩ := op_push h (xs (i + 1))
  refine j_aload_n C 2 dL_law_238 rfl ?_
  refine j_aload_n C 3 dL_law_239 rfl ?_
  refine j_iload_n C 0 dL_law_240 rfl ?_
  refine j_iconst C 1 dL_law_241 ic_1 ?_
  refine j_iadd C dL_law_242 ?_
  refine j_sld C hX hbl hbA (i + 1) (nI_add i 1) (by omega) (by omega) dL_law_243 ?_
  refine jl_cls (n := 1) C rfl (c_push l D z a u (xs (i + 1)) g1) (jk_GV TT_good (jk_4 vl_3_push vi_3_push vs_3_push qi_3) vk_3_push) (by decide +kernel) ⟨⟨rfl, rfl⟩, by decide, by decide⟩ 0 3 rfl rfl rfl rfl rfl (Nat.le_of_ble_eq_true rfl) dL_law_244 ?_
  refine j_aload_n C 1 dL_law_247 rfl ?_
  refine j_aload_n C 3 dL_law_248 rfl ?_
  refine j_iload_n C 0 dL_law_249 rfl ?_
  refine j_iconst C 1 dL_law_250 ic_1 ?_
  refine j_iadd C dL_law_251 ?_
  refine j_sld C hX hbl hbA (i + 1) (nI_add i 1) (by omega) (by omega) dL_law_252 ?_
  refine jl_ref (n := 1) C rfl (c_m_push l D z b v (xs (i + 1)) g2) (jk_GV TT_good (jk_4 vl_4_push vi_4_push vs_4_push qi_4) vk_4_push) (by decide +kernel) ⟨⟨rfl, rfl⟩, by decide, by decide⟩ 0 4 rfl rfl rfl rfl rfl (Nat.le_of_ble_eq_true rfl) dL_law_253 ?_
  exact j_icmp_eq C 432 dL_law_256 rfl (fun _ => kk _ _ hr) (fun q => absurd he q)
theorem lc_stick (C : jk_C p room_1 s m args c cells slots cL_law 4 RL TT D clA (tyl z) A) (hX : va_X b0 L xs s s.heap) (hbl : b0 < s.heap.size) (hbA : ¬ A b0) (hL : L ≤ 2048) (hi : i + 4 ≤ L) (h : RelT u v)
    (kk : ∀ u1 v1 : St, RelT u1 v1 → JJ p l e room_1 s m args below meth c cells slots 4 D clA (wL z a b) A Q 432 (lvL a b b0 i) (u1, v1) []) :
    JJ p l e room_1 s m args below meth c cells slots 4 D clA (wL z a b) A Q 261 (lvL a b b0 i) (u, v) [] := by
  obtain ⟨⟨he, hr⟩, g1, g2⟩ := op_stick h (xs (i + 1)) (xs (i + 2))
  refine j_aload_n C 2 dL_law_261 rfl ?_
  refine j_aload_n C 3 dL_law_262 rfl ?_
  refine j_iload_n C 0 dL_law_263 rfl ?_
  refine j_iconst C 1 dL_law_264 ic_1 ?_
  refine j_iadd C dL_law_265 ?_
  refine j_sld C hX hbl hbA (i + 1) (nI_add i 1) (by omega) (by omega) dL_law_266 ?_
  refine j_aload_n C 3 dL_law_267 rfl ?_
  refine j_iload_n C 0 dL_law_268 rfl ?_
  refine j_iconst C 2 dL_law_269 ic_2 ?_
  refine j_iadd C dL_law_270 ?_
  refine j_sld C hX hbl hbA (i + 2) (nI_add i 2) (by omega) (by omega) dL_law_271 ?_
  refine jl_cls (n := 2) C rfl (c_stick l D z a u (xs (i + 1)) (xs (i + 2)) g1) (jk_GV TT_good (jk_4 vl_3_stick vi_3_stick vs_3_stick qi_3) vk_3_stick) (by decide +kernel) ⟨⟨rfl, rfl⟩, by decide, by decide⟩ 0 3 rfl rfl rfl rfl rfl (Nat.le_of_ble_eq_true rfl) dL_law_272 ?_
  refine j_aload_n C 1 dL_law_275 rfl ?_
  refine j_aload_n C 3 dL_law_276 rfl ?_
  refine j_iload_n C 0 dL_law_277 rfl ?_
  refine j_iconst C 1 dL_law_278 ic_1 ?_
  refine j_iadd C dL_law_279 ?_
  refine j_sld C hX hbl hbA (i + 1) (nI_add i 1) (by omega) (by omega) dL_law_280 ?_
  refine j_aload_n C 3 dL_law_281 rfl ?_
  refine j_iload_n C 0 dL_law_282 rfl ?_
  refine j_iconst C 2 dL_law_283 ic_2 ?_
  refine j_iadd C dL_law_284 ?_
  refine j_sld C hX hbl hbA (i + 2) (nI_add i 2) (by omega) (by omega) dL_law_285 ?_
  refine jl_ref (n := 2) C rfl (c_m_stick l D z b v (xs (i + 1)) (xs (i + 2)) g2) (jk_GV TT_good (jk_4 vl_4_stick vi_4_stick vs_4_stick qi_4) vk_4_stick) (by decide +kernel) ⟨⟨rfl, rfl⟩, by decide, by decide⟩ 0 4 rfl rfl rfl rfl rfl (Nat.le_of_ble_eq_true rfl) dL_law_286 ?_
  exact j_icmp_eq C 432 dL_law_289 rfl (fun _ => kk _ _ hr) (fun q => absurd he q)
theorem lc_run (C : jk_C p room_1 s m args c cells slots cL_law 4 RL TT D clA (tyl z) A) (hX : va_X b0 L xs s s.heap) (hbl : b0 < s.heap.size) (hbA : ¬ A b0) (hL : L ≤ 2048) (hi : i + 4 ≤ L) (h : RelT u v)
    (kk : ∀ u1 v1 : St, RelT u1 v1 → JJ p l e room_1 s m args below meth c cells slots 4 D clA (wL z a b) A Q 432 (lvL a b b0 i) (u1, v1) []) :
    JJ p l e room_1 s m args below meth c cells slots 4 D clA (wL z a b) A Q 294 (lvL a b b0 i) (u, v) [] := by
  obtain ⟨⟨he, hr⟩, g1, g2⟩ := op_run h (xs (i + 1))
  refine j_aload_n C 2 dL_law_294 rfl ?_
  refine j_aload_n C 3 dL_law_295 rfl ?_
  refine j_iload_n C 0 dL_law_296 rfl ?_
  refine j_iconst C 1 dL_law_297 ic_1 ?_
  refine j_iadd C dL_law_298 ?_
  refine j_sld C hX hbl hbA (i + 1) (nI_add i 1) (by omega) (by omega) dL_law_299 ?_
  refine jl_cls (n := 1) C rfl (c_run l D z a u (xs (i + 1)) g1) (jk_GV TT_good (jk_4 vl_3_run vi_3_run vs_3_run qi_3) vk_3_run) (by decide +kernel) ⟨⟨rfl, rfl⟩, by decide, by decide⟩ 0 3 rfl rfl rfl rfl rfl (Nat.le_of_ble_eq_true rfl) dL_law_300 ?_
  refine j_aload_n C 1 dL_law_303 rfl ?_
  refine j_aload_n C 3 dL_law_304 rfl ?_
  refine j_iload_n C 0 dL_law_305 rfl ?_
  refine j_iconst C 1 dL_law_306 ic_1 ?_
  refine j_iadd C dL_law_307 ?_
  refine j_sld C hX hbl hbA (i + 1) (nI_add i 1) (by omega) (by omega) dL_law_308 ?_
  refine jl_ref (n := 1) C rfl (c_m_run l D z b v (xs (i + 1)) g2) (jk_GV TT_good (jk_4 vl_4_run vi_4_run vs_4_run qi_4) vk_4_run) (by decide +kernel) ⟨⟨rfl, rfl⟩, by decide, by decide⟩ 0 4 rfl rfl rfl rfl rfl (Nat.le_of_ble_eq_true rfl) dL_law_309 ?_
  exact j_icmp_eq C 432 dL_law_312 rfl (fun _ => kk _ _ hr) (fun q => absurd he q)
theorem lc_restart (C : jk_C p room_1 s m args c cells slots cL_law 4 RL TT D clA (tyl z) A) (hX : va_X b0 L xs s s.heap) (hbl : b0 < s.heap.size) (hbA : ¬ A b0) (hL : L ≤ 2048) (hi : i + 4 ≤ L) (h : RelT u v)
    (kk : ∀ u1 v1 : St, RelT u1 v1 → JJ p l e room_1 s m args below meth c cells slots 4 D clA (wL z a b) A Q 432 (lvL a b b0 i) (u1, v1) []) :
    JJ p l e room_1 s m args below meth c cells slots 4 D clA (wL z a b) A Q 317 (lvL a b b0 i) (u, v) [] := by
  obtain ⟨he, hr⟩ := op_restart h
  refine j_aload_n C 2 dL_law_317 rfl ?_
  refine jl_cls (n := 0) C rfl (c_restart l D z a u) (jk_GV TT_good (jk_4 vl_3_restart vi_3_restart vs_3_restart qi_3) vk_3_restart) (by decide +kernel) ⟨⟨rfl, rfl⟩, by decide, by decide⟩ 0 3 rfl rfl rfl rfl rfl (Nat.le_of_ble_eq_true rfl) dL_law_318 ?_
  refine j_aload_n C 1 dL_law_321 rfl ?_
  refine jl_ref (n := 0) C rfl (c_m_restart l D z b v) (jk_GV TT_good (jk_4 vl_4_restart vi_4_restart vs_4_restart qi_4) vk_4_restart) (by decide +kernel) ⟨⟨rfl, rfl⟩, by decide, by decide⟩ 0 4 rfl rfl rfl rfl rfl (Nat.le_of_ble_eq_true rfl) dL_law_322 ?_
  exact j_icmp_eq C 432 dL_law_325 rfl (fun _ => kk _ _ hr) (fun q => absurd he q)
theorem lc_of (C : jk_C p room_1 s m args c cells slots cL_law 4 RL TT D clA (tyl z) A) (hX : va_X b0 L xs s s.heap) (hbl : b0 < s.heap.size) (hbA : ¬ A b0) (hL : L ≤ 2048) (hi : i + 4 ≤ L) (h : RelT u v)
    (kk : ∀ u1 v1 : St, RelT u1 v1 → JJ p l e room_1 s m args below meth c cells slots 4 D clA (wL z a b) A Q 432 (lvL a b b0 i) (u1, v1) []) :
    JJ p l e room_1 s m args below meth c cells slots 4 D clA (wL z a b) A Q 330 (lvL a b b0 i) (u, v) [] := by
  obtain ⟨he, hr, g1, g2⟩ := op_of h (xs (i + 1)) (xs (i + 2))
  refine j_aload_n C 2 dL_law_330 rfl ?_
  refine j_aload_n C 3 dL_law_331 rfl ?_
  refine j_iload_n C 0 dL_law_332 rfl ?_
  refine j_iconst C 1 dL_law_333 ic_1 ?_
  refine j_iadd C dL_law_334 ?_
  refine j_sld C hX hbl hbA (i + 1) (nI_add i 1) (by omega) (by omega) dL_law_335 ?_
  refine j_aload_n C 3 dL_law_336 rfl ?_
  refine j_iload_n C 0 dL_law_337 rfl ?_
  refine j_iconst C 2 dL_law_338 ic_2 ?_
  refine j_iadd C dL_law_339 ?_
  refine j_sld C hX hbl hbA (i + 2) (nI_add i 2) (by omega) (by omega) dL_law_340 ?_
  refine jl_cls (n := 2) C rfl (c_of l D z a u (xs (i + 1)) (xs (i + 2)) g1) (jk_GV TT_good (jk_4 vl_3_of vi_3_of vs_3_of qi_3) vk_3_of) (by decide +kernel) ⟨⟨rfl, rfl⟩, by decide, by decide⟩ 0 3 rfl rfl rfl rfl rfl (Nat.le_of_ble_eq_true rfl) dL_law_341 ?_
  refine j_aload_n C 1 dL_law_344 rfl ?_
  refine j_aload_n C 3 dL_law_345 rfl ?_
  refine j_iload_n C 0 dL_law_346 rfl ?_
  refine j_iconst C 1 dL_law_347 ic_1 ?_
  refine j_iadd C dL_law_348 ?_
  refine j_sld C hX hbl hbA (i + 1) (nI_add i 1) (by omega) (by omega) dL_law_349 ?_
  refine j_aload_n C 3 dL_law_350 rfl ?_
  refine j_iload_n C 0 dL_law_351 rfl ?_
  refine j_iconst C 2 dL_law_352 ic_2 ?_
  refine j_iadd C dL_law_353 ?_
  refine j_sld C hX hbl hbA (i + 2) (nI_add i 2) (by omega) (by omega) dL_law_354 ?_
  refine jl_ref (n := 2) C rfl (c_m_of l D z b v (xs (i + 1)) (xs (i + 2)) g2) (jk_GV TT_good (jk_4 vl_4_of vi_4_of vs_4_of qi_4) vk_4_of) (by decide +kernel) ⟨⟨rfl, rfl⟩, by decide, by decide⟩ 0 4 rfl rfl rfl rfl rfl (Nat.le_of_ble_eq_true rfl) dL_law_355 ?_
  exact j_icmp_eq C 432 dL_law_358 rfl (fun _ => kk _ _ hr) (fun q => absurd he q)
theorem lc_ring (C : jk_C p room_1 s m args c cells slots cL_law 4 RL TT D clA (tyl z) A) (hX : va_X b0 L xs s s.heap) (hbl : b0 < s.heap.size) (hbA : ¬ A b0) (hL : L ≤ 2048) (hi : i + 4 ≤ L) (h : RelT u v)
    (kk : ∀ u1 v1 : St, RelT u1 v1 → JJ p l e room_1 s m args below meth c cells slots 4 D clA (wL z a b) A Q 432 (lvL a b b0 i) (u1, v1) []) :
    JJ p l e room_1 s m args below meth c cells slots 4 D clA (wL z a b) A Q 363 (lvL a b b0 i) (u, v) [] := by
  obtain ⟨he, hr, g1, g2⟩ := op_ring h (xs (i + 1)) (xs (i + 2))
  refine j_aload_n C 2 dL_law_363 rfl ?_
  refine j_aload_n C 3 dL_law_364 rfl ?_
  refine j_iload_n C 0 dL_law_365 rfl ?_
  refine j_iconst C 1 dL_law_366 ic_1 ?_
  refine j_iadd C dL_law_367 ?_
  refine j_sld C hX hbl hbA (i + 1) (nI_add i 1) (by omega) (by omega) dL_law_368 ?_
  refine j_aload_n C 3 dL_law_369 rfl ?_
  refine j_iload_n C 0 dL_law_370 rfl ?_
  refine j_iconst C 2 dL_law_371 ic_2 ?_
  refine j_iadd C dL_law_372 ?_
  refine j_sld C hX hbl hbA (i + 2) (nI_add i 2) (by omega) (by omega) dL_law_373 ?_
  refine jl_cls (n := 2) C rfl (c_ring l D z a u (xs (i + 1)) (xs (i + 2)) g1) (jk_GV TT_good (jk_4 vl_3_ring vi_3_ring vs_3_ring qi_3) vk_3_ring) (by decide +kernel) ⟨⟨rfl, rfl⟩, by decide, by decide⟩ 0 3 rfl rfl rfl rfl rfl (Nat.le_of_ble_eq_true rfl) dL_law_374 ?_
  refine j_aload_n C 1 dL_law_377 rfl ?_
  refine j_aload_n C 3 dL_law_378 rfl ?_
  refine j_iload_n C 0 dL_law_379 rfl ?_
  refine j_iconst C 1 dL_law_380 ic_1 ?_
  refine j_iadd C dL_law_381 ?_
  refine j_sld C hX hbl hbA (i + 1) (nI_add i 1) (by omega) (by omega) dL_law_382 ?_
  refine j_aload_n C 3 dL_law_383 rfl ?_
  refine j_iload_n C 0 dL_law_384 rfl ?_
  refine j_iconst C 2 dL_law_385 ic_2 ?_
  refine j_iadd C dL_law_386 ?_
  refine j_sld C hX hbl hbA (i + 2) (nI_add i 2) (by omega) (by omega) dL_law_387 ?_
  refine jl_ref (n := 2) C rfl (c_m_ring l D z b v (xs (i + 1)) (xs (i + 2)) g2) (jk_GV TT_good (jk_4 vl_4_ring vi_4_ring vs_4_ring qi_4) vk_4_ring) (by decide +kernel) ⟨⟨rfl, rfl⟩, by decide, by decide⟩ 0 4 rfl rfl rfl rfl rfl (Nat.le_of_ble_eq_true rfl) dL_law_388 ?_
  exact j_icmp_eq C 432 dL_law_391 rfl (fun _ => kk _ _ hr) (fun q => absurd he q)
theorem lc_state (C : jk_C p room_1 s m args c cells slots cL_law 4 RL TT D clA (tyl z) A) (hX : va_X b0 L xs s s.heap) (hbl : b0 < s.heap.size) (hbA : ¬ A b0) (hL : L ≤ 2048) (hi : i + 4 ≤ L) (h : RelT u v)
    (kk : ∀ u1 v1 : St, RelT u1 v1 → JJ p l e room_1 s m args below meth c cells slots 4 D clA (wL z a b) A Q 432 (lvL a b b0 i) (u1, v1) []) :
    JJ p l e room_1 s m args below meth c cells slots 4 D clA (wL z a b) A Q 396 (lvL a b b0 i) (u, v) [] := by
  obtain ⟨he, hr⟩ := op_state h (xs (i + 1))
  refine j_aload_n C 2 dL_law_396 rfl ?_
  refine j_aload_n C 3 dL_law_397 rfl ?_
  refine j_iload_n C 0 dL_law_398 rfl ?_
  refine j_iconst C 1 dL_law_399 ic_1 ?_
  refine j_iadd C dL_law_400 ?_
  refine j_sld C hX hbl hbA (i + 1) (nI_add i 1) (by omega) (by omega) dL_law_401 ?_
  refine jl_cls (n := 1) C rfl (c_state l D z a u (xs (i + 1))) (jk_GV TT_good (jk_4 vl_3_state vi_3_state vs_3_state qi_3) vk_3_state) (by decide +kernel) ⟨⟨rfl, rfl⟩, by decide, by decide⟩ 0 3 rfl rfl rfl rfl rfl (Nat.le_of_ble_eq_true rfl) dL_law_402 ?_
  refine j_aload_n C 1 dL_law_405 rfl ?_
  refine j_aload_n C 3 dL_law_406 rfl ?_
  refine j_iload_n C 0 dL_law_407 rfl ?_
  refine j_iconst C 1 dL_law_408 ic_1 ?_
  refine j_iadd C dL_law_409 ?_
  refine j_sld C hX hbl hbA (i + 1) (nI_add i 1) (by omega) (by omega) dL_law_410 ?_
  refine jl_ref (n := 1) C rfl (c_m_state l D z b v (xs (i + 1))) (jk_GV TT_good (jk_4 vl_4_state vi_4_state vs_4_state qi_4) vk_4_state) (by decide +kernel) ⟨⟨rfl, rfl⟩, by decide, by decide⟩ 0 4 rfl rfl rfl rfl rfl (Nat.le_of_ble_eq_true rfl) dL_law_411 ?_
  exact j_icmp_eq C 432 dL_law_414 rfl (fun _ => kk _ _ hr) (fun q => absurd he q)
theorem lc_check (C : jk_C p room_1 s m args c cells slots cL_law 4 RL TT D clA (tyl z) A) (hX : va_X b0 L xs s s.heap) (hbl : b0 < s.heap.size) (hbA : ¬ A b0) (hL : L ≤ 2048) (hi : i + 4 ≤ L) (h : RelT u v)
    (kk : ∀ u1 v1 : St, RelT u1 v1 → JJ p l e room_1 s m args below meth c cells slots 4 D clA (wL z a b) A Q 432 (lvL a b b0 i) (u1, v1) []) :
    JJ p l e room_1 s m args below meth c cells slots 4 D clA (wL z a b) A Q 419 (lvL a b b0 i) (u, v) [] := by
  obtain ⟨he, hr⟩ := op_check h
  refine j_aload_n C 2 dL_law_419 rfl ?_
  refine jl_cls (n := 0) C rfl (c_check l D z a u) (jk_GV TT_good (jk_4 vl_3_check vi_3_check vs_3_check qi_3) vk_3_check) (by decide +kernel) ⟨⟨rfl, rfl⟩, by decide, by decide⟩ 0 3 rfl rfl rfl rfl rfl (Nat.le_of_ble_eq_true rfl) dL_law_420 ?_
  refine j_aload_n C 1 dL_law_423 rfl ?_
  refine jl_ref (n := 0) C rfl (c_m_check l D z b v) (jk_GV TT_good (jk_4 vl_4_check vi_4_check vs_4_check qi_4) vk_4_check) (by decide +kernel) ⟨⟨rfl, rfl⟩, by decide, by decide⟩ 0 4 rfl rfl rfl rfl rfl (Nat.le_of_ble_eq_true rfl) dL_law_424 ?_
  exact j_icmp_eq C 432 dL_law_427 rfl (fun _ => kk _ _ hr) (fun q => absurd he q)
end LC
