theorem jk_3 {a b c : Cond} {Ts : List Cond} (h1 : a ∈ Ts) (h2 : b ∈ Ts) (h3 : c ∈ Ts) : ∀ w ∈ ([a, b, c] : List Cond), w ∈ Ts := by
  intro w hw
  simp only [List.mem_cons, List.not_mem_nil, or_false] at hw
  rcases hw with rfl | rfl | rfl <;> assumption
theorem jk_4 {a b c d : Cond} {Ts : List Cond} (h1 : a ∈ Ts) (h2 : b ∈ Ts) (h3 : c ∈ Ts) (h4 : d ∈ Ts) : ∀ w ∈ ([a, b, c, d] : List Cond), w ∈ Ts := by
  intro w hw
  simp only [List.mem_cons, List.not_mem_nil, or_false] at hw
  rcases hw with rfl | rfl | rfl | rfl <;> assumption
theorem bp_6 : (Int8.ofInt (6)).toInt32 = (6 : Int32) := by decide
theorem bp_7 : (Int8.ofInt (7)).toInt32 = (7 : Int32) := by decide
theorem bp_8 : (Int8.ofInt (8)).toInt32 = (8 : Int32) := by decide
theorem bp_16 : (Int8.ofInt (16)).toInt32 = (16 : Int32) := by decide
theorem bp_28 : (Int8.ofInt (28)).toInt32 = (28 : Int32) := by decide
theorem bp_32 : (Int8.ofInt (32)).toInt32 = (32 : Int32) := by decide
theorem bp_63 : (Int8.ofInt (63)).toInt32 = (63 : Int32) := by decide
theorem ic_m1 : Int32.ofInt (-1) = (-1 : Int32) := by decide
theorem ic_0 : Int32.ofInt (0) = (0 : Int32) := by decide
theorem ic_1 : Int32.ofInt (1) = (1 : Int32) := by decide
theorem ic_2 : Int32.ofInt (2) = (2 : Int32) := by decide
theorem ic_3 : Int32.ofInt (3) = (3 : Int32) := by decide
theorem ic_4 : Int32.ofInt (4) = (4 : Int32) := by decide
theorem ic_5 : Int32.ofInt (5) = (5 : Int32) := by decide
theorem ix_0 : (0 : Int32) = nI 0 := by decide
theorem ix_1 : (1 : Int32) = nI 1 := by decide
theorem ix_2 : (2 : Int32) = nI 2 := by decide
theorem ix_3 : (3 : Int32) = nI 3 := by decide
theorem ix_4 : (4 : Int32) = nI 4 := by decide
theorem ix_5 : (5 : Int32) = nI 5 := by decide
theorem ix_6 : (6 : Int32) = nI 6 := by decide
theorem sp_500 : (Int16.ofInt (500)).toInt32 = (500 : Int32) := by decide
theorem lk_3_11 : Cond.fieldLink RX3 11 (TX3 0).1 (TX3 0).2.1 (TX3 0).2.2.1 ∈ TT := tt_t 137 (by decide +kernel) rfl
theorem lk_3_18 : Cond.fieldLink RX3 18 (TX3 1).1 (TX3 1).2.1 (TX3 1).2.2.1 ∈ TT := tt_t 138 (by decide +kernel) rfl
theorem lk_3_28 : Cond.fieldLink RX3 28 (TX3 2).1 (TX3 2).2.1 (TX3 2).2.2.1 ∈ TT := tt_t 139 (by decide +kernel) rfl
theorem lk_3_32 : Cond.fieldLink RX3 32 (TX3 3).1 (TX3 3).2.1 (TX3 3).2.2.1 ∈ TT := tt_t 140 (by decide +kernel) rfl
theorem lk_3_46 : Cond.fieldLink RX3 46 (TX1 0).1 (TX1 0).2.1 (TX1 0).2.2.1 ∈ TT := tt_t 32 (by decide +kernel) rfl
theorem lk_3_49 : Cond.fieldLink RX3 49 (TX1 1).1 (TX1 1).2.1 (TX1 1).2.2.1 ∈ TT := tt_t 35 (by decide +kernel) rfl
theorem lk_3_66 : Cond.fieldLink RX3 66 (TX2 1).1 (TX2 1).2.1 (TX2 1).2.2.1 ∈ TT := tt_t 80 (by decide +kernel) rfl
theorem lk_3_70 : Cond.fieldLink RX3 70 (TX1 2).1 (TX1 2).2.1 (TX1 2).2.2.1 ∈ TT := tt_t 37 (by decide +kernel) rfl
theorem lk_3_80 : Cond.fieldLink RX3 80 (TX1 3).1 (TX1 3).2.1 (TX1 3).2.2.1 ∈ TT := tt_t 40 (by decide +kernel) rfl
theorem lk_3_83 : Cond.fieldLink RX3 83 (TX1 4).1 (TX1 4).2.1 (TX1 4).2.2.1 ∈ TT := tt_t 42 (by decide +kernel) rfl
theorem lk_3_86 : Cond.fieldLink RX3 86 (TX1 8).1 (TX1 8).2.1 (TX1 8).2.2.1 ∈ TT := tt_t 50 (by decide +kernel) rfl
theorem lk_3_100 : Cond.fieldLink RX3 100 (TX2 7).1 (TX2 7).2.1 (TX2 7).2.2.1 ∈ TT := tt_t 92 (by decide +kernel) rfl
theorem lk_3_103 : Cond.fieldLink RX3 103 (TX3 6).1 (TX3 6).2.1 (TX3 6).2.2.1 ∈ TT := tt_t 143 (by decide +kernel) rfl
theorem lk_3_106 : Cond.fieldLink RX3 106 (TX3 5).1 (TX3 5).2.1 (TX3 5).2.2.1 ∈ TT := tt_t 142 (by decide +kernel) rfl
theorem lk_3_128 : Cond.fieldLink RX3 128 (TX1 5).1 (TX1 5).2.1 (TX1 5).2.2.1 ∈ TT := tt_t 44 (by decide +kernel) rfl
theorem lk_3_131 : Cond.fieldLink RX3 131 (TX1 6).1 (TX1 6).2.1 (TX1 6).2.2.1 ∈ TT := tt_t 46 (by decide +kernel) rfl
theorem lk_3_134 : Cond.fieldLink RX3 134 (TX1 7).1 (TX1 7).2.1 (TX1 7).2.2.1 ∈ TT := tt_t 48 (by decide +kernel) rfl
theorem lk_3_137 : Cond.fieldLink RX3 137 (TX2 2).1 (TX2 2).2.1 (TX2 2).2.2.1 ∈ TT := tt_t 82 (by decide +kernel) rfl
theorem lk_3_140 : Cond.fieldLink RX3 140 (TX2 3).1 (TX2 3).2.1 (TX2 3).2.2.1 ∈ TT := tt_t 84 (by decide +kernel) rfl
theorem lk_3_143 : Cond.fieldLink RX3 143 (TX2 4).1 (TX2 4).2.1 (TX2 4).2.2.1 ∈ TT := tt_t 86 (by decide +kernel) rfl
theorem lk_3_146 : Cond.fieldLink RX3 146 (TX2 5).1 (TX2 5).2.1 (TX2 5).2.2.1 ∈ TT := tt_t 88 (by decide +kernel) rfl
theorem lk_3_149 : Cond.fieldLink RX3 149 (TX2 6).1 (TX2 6).2.1 (TX2 6).2.2.1 ∈ TT := tt_t 90 (by decide +kernel) rfl
theorem lk_3_156 : Cond.fieldLink RX3 156 (TX3 4).1 (TX3 4).2.1 (TX3 4).2.2.1 ∈ TT := tt_t 141 (by decide +kernel) rfl
theorem lk_3_159 : Cond.fieldLink RX3 159 (TX0 3).1 (TX0 3).2.1 (TX0 3).2.2.1 ∈ TT := tt_t 127 (by decide +kernel) rfl
theorem lk_3_162 : Cond.fieldLink RX3 162 (TX3 7).1 (TX3 7).2.1 (TX3 7).2.2.1 ∈ TT := tt_t 144 (by decide +kernel) rfl
theorem lk_0_9 : Cond.fieldLink RX0 9 (TX0 0).1 (TX0 0).2.1 (TX0 0).2.2.1 ∈ TT := tt_t 123 (by decide +kernel) rfl
theorem lk_0_15 : Cond.fieldLink RX0 15 (TX0 1).1 (TX0 1).2.1 (TX0 1).2.2.1 ∈ TT := tt_t 124 (by decide +kernel) rfl
theorem lk_0_18 : Cond.fieldLink RX0 18 (TX0 2).1 (TX0 2).2.1 (TX0 2).2.2.1 ∈ TT := tt_t 125 (by decide +kernel) rfl
theorem lk_0_22 : Cond.fieldLink RX0 22 (TX0 3).1 (TX0 3).2.1 (TX0 3).2.2.1 ∈ TT := tt_t 126 (by decide +kernel) rfl
theorem lk_1_18 : Cond.fieldLink RX1 18 (TX1 0).1 (TX1 0).2.1 (TX1 0).2.2.1 ∈ TT := tt_t 31 (by decide +kernel) rfl
theorem lk_1_23 : Cond.fieldLink RX1 23 (TX1 1).1 (TX1 1).2.1 (TX1 1).2.2.1 ∈ TT := tt_t 34 (by decide +kernel) rfl
theorem lk_1_30 : Cond.fieldLink RX1 30 (TX1 2).1 (TX1 2).2.1 (TX1 2).2.2.1 ∈ TT := tt_t 36 (by decide +kernel) rfl
theorem lk_1_34 : Cond.fieldLink RX1 34 (TX1 3).1 (TX1 3).2.1 (TX1 3).2.2.1 ∈ TT := tt_t 39 (by decide +kernel) rfl
theorem lk_1_37 : Cond.fieldLink RX1 37 (TX1 4).1 (TX1 4).2.1 (TX1 4).2.2.1 ∈ TT := tt_t 41 (by decide +kernel) rfl
theorem lk_1_44 : Cond.fieldLink RX1 44 (TX1 5).1 (TX1 5).2.1 (TX1 5).2.2.1 ∈ TT := tt_t 43 (by decide +kernel) rfl
theorem lk_1_47 : Cond.fieldLink RX1 47 (TX1 6).1 (TX1 6).2.1 (TX1 6).2.2.1 ∈ TT := tt_t 45 (by decide +kernel) rfl
theorem lk_1_56 : Cond.fieldLink RX1 56 (TX1 7).1 (TX1 7).2.1 (TX1 7).2.2.1 ∈ TT := tt_t 47 (by decide +kernel) rfl
theorem lk_2_9 : Cond.fieldLink RX2 9 (TX2 0).1 (TX2 0).2.1 (TX2 0).2.2.1 ∈ TT := tt_t 78 (by decide +kernel) rfl
theorem lk_2_15 : Cond.fieldLink RX2 15 (TX2 1).1 (TX2 1).2.1 (TX2 1).2.2.1 ∈ TT := tt_t 79 (by decide +kernel) rfl
theorem lk_2_19 : Cond.fieldLink RX2 19 (TX2 2).1 (TX2 2).2.1 (TX2 2).2.2.1 ∈ TT := tt_t 81 (by decide +kernel) rfl
theorem lk_2_22 : Cond.fieldLink RX2 22 (TX2 3).1 (TX2 3).2.1 (TX2 3).2.2.1 ∈ TT := tt_t 83 (by decide +kernel) rfl
theorem lk_2_25 : Cond.fieldLink RX2 25 (TX2 7).1 (TX2 7).2.1 (TX2 7).2.2.1 ∈ TT := tt_t 91 (by decide +kernel) rfl
theorem lk_2_28 : Cond.fieldLink RX2 28 (TX2 8).1 (TX2 8).2.1 (TX2 8).2.2.1 ∈ TT := tt_t 93 (by decide +kernel) rfl
theorem lk_2_31 : Cond.fieldLink RX2 31 (TX2 9).1 (TX2 9).2.1 (TX2 9).2.2.1 ∈ TT := tt_t 94 (by decide +kernel) rfl
theorem lk_2_34 : Cond.fieldLink RX2 34 (TX2 4).1 (TX2 4).2.1 (TX2 4).2.2.1 ∈ TT := tt_t 85 (by decide +kernel) rfl
theorem lk_2_41 : Cond.fieldLink RX2 41 (TX2 5).1 (TX2 5).2.1 (TX2 5).2.2.1 ∈ TT := tt_t 87 (by decide +kernel) rfl
theorem lk_2_44 : Cond.fieldLink RX2 44 (TX2 6).1 (TX2 6).2.1 (TX2 6).2.2.1 ∈ TT := tt_t 89 (by decide +kernel) rfl
theorem lk_2_51 : Cond.fieldLink RX2 51 (TX1 0).1 (TX1 0).2.1 (TX1 0).2.2.1 ∈ TT := tt_t 33 (by decide +kernel) rfl
theorem lk_2_61 : Cond.fieldLink RX2 61 (TX1 2).1 (TX1 2).2.1 (TX1 2).2.2.1 ∈ TT := tt_t 38 (by decide +kernel) rfl
set_option maxRecDepth 100000 in
theorem cm_isMovement : Cond.code yX3_isMovement cX3_isMovement 1 (some .boolean) ∈ TT := tt_t 168 rfl rfl
theorem dd_isMovement : yX3_isMovement.cls ≠ "java/lang/invoke/MethodHandle" ∧ yX3_isMovement.cls ≠ "java/lang/invoke/VarHandle" ∧ (parseMethodDescriptor yX3_isMovement.desc).map (fun d => d.parameters.length) = some 1 := by decide +kernel
theorem gv_3_36 : GoodIn TT (va_wsS RX3 36 yX3_isMovement (Cond.code yX3_isMovement cX3_isMovement 1 (some .boolean) :: TT)) := jk_GS TT_good (jk_3 (tt_t 166 (by decide +kernel) rfl) (tt_t 167 (by decide +kernel) rfl) (tt_t 1 (by decide +kernel) rfl)) cm_isMovement
set_option maxRecDepth 100000 in
theorem cm_isRing : Cond.code yX3_isRing cX3_isRing 1 (some .boolean) ∈ TT := tt_t 183 rfl rfl
theorem dd_isRing : yX3_isRing.cls ≠ "java/lang/invoke/MethodHandle" ∧ yX3_isRing.cls ≠ "java/lang/invoke/VarHandle" ∧ (parseMethodDescriptor yX3_isRing.desc).map (fun d => d.parameters.length) = some 1 := by decide +kernel
theorem gv_3_53 : GoodIn TT (va_wsS RX3 53 yX3_isRing (Cond.code yX3_isRing cX3_isRing 1 (some .boolean) :: TT)) := jk_GS TT_good (jk_3 (tt_t 181 (by decide +kernel) rfl) (tt_t 182 (by decide +kernel) rfl) (tt_t 1 (by decide +kernel) rfl)) cm_isRing
set_option maxRecDepth 100000 in
theorem cm_R_first : Cond.code yX2_first cX2_first 2 (some .int) ∈ TT := tt_t 187 rfl rfl
theorem dd_R_first : yX2_first.cls = RX2 ∧ yX2_first.cls ≠ "java/lang/invoke/MethodHandle" ∧ yX2_first.cls ≠ "java/lang/invoke/VarHandle" ∧ (parseMethodDescriptor yX2_first.desc).map (fun d => d.parameters.length) = some 1 := by decide +kernel
theorem gv_3_56 : GoodIn TT (wsV RX3 56 RX2 yX2_first (Cond.code yX2_first cX2_first 2 (some .int) :: TT)) := jk_GV TT_good (jk_4 (tt_t 184 (by decide +kernel) rfl) (tt_t 185 (by decide +kernel) rfl) (tt_t 186 (by decide +kernel) rfl) (tt_t 3 (by decide +kernel) rfl)) cm_R_first
set_option maxRecDepth 100000 in
theorem cm_R_isBusyWith : Cond.code yX2_isBusyWith cX2_isBusyWith 2 (some .boolean) ∈ TT := tt_t 191 rfl rfl
theorem dd_R_isBusyWith : yX2_isBusyWith.cls = RX2 ∧ yX2_isBusyWith.cls ≠ "java/lang/invoke/MethodHandle" ∧ yX2_isBusyWith.cls ≠ "java/lang/invoke/VarHandle" ∧ (parseMethodDescriptor yX2_isBusyWith.desc).map (fun d => d.parameters.length) = some 1 := by decide +kernel
theorem gv_3_60 : GoodIn TT (wsV RX3 60 RX2 yX2_isBusyWith (Cond.code yX2_isBusyWith cX2_isBusyWith 2 (some .boolean) :: TT)) := jk_GV TT_good (jk_4 (tt_t 188 (by decide +kernel) rfl) (tt_t 189 (by decide +kernel) rfl) (tt_t 190 (by decide +kernel) rfl) (tt_t 3 (by decide +kernel) rfl)) cm_R_isBusyWith
set_option maxRecDepth 100000 in
theorem cm_R_second : Cond.code yX2_second cX2_second 2 (some .int) ∈ TT := tt_t 195 rfl rfl
theorem dd_R_second : yX2_second.cls = RX2 ∧ yX2_second.cls ≠ "java/lang/invoke/MethodHandle" ∧ yX2_second.cls ≠ "java/lang/invoke/VarHandle" ∧ (parseMethodDescriptor yX2_second.desc).map (fun d => d.parameters.length) = some 1 := by decide +kernel
theorem gv_3_63 : GoodIn TT (wsV RX3 63 RX2 yX2_second (Cond.code yX2_second cX2_second 2 (some .int) :: TT)) := jk_GV TT_good (jk_4 (tt_t 192 (by decide +kernel) rfl) (tt_t 193 (by decide +kernel) rfl) (tt_t 194 (by decide +kernel) rfl) (tt_t 3 (by decide +kernel) rfl)) cm_R_second
set_option maxRecDepth 100000 in
theorem cm_M_has : Cond.code yX1_has cX1_has 2 (some .boolean) ∈ TT := tt_t 203 rfl rfl
theorem dd_M_has : yX1_has.cls = RX1 ∧ yX1_has.cls ≠ "java/lang/invoke/MethodHandle" ∧ yX1_has.cls ≠ "java/lang/invoke/VarHandle" ∧ (parseMethodDescriptor yX1_has.desc).map (fun d => d.parameters.length) = some 1 := by decide +kernel
theorem gv_3_74 : GoodIn TT (wsV RX3 74 RX1 yX1_has (Cond.code yX1_has cX1_has 2 (some .boolean) :: TT)) := jk_GV TT_good (jk_4 (tt_t 200 (by decide +kernel) rfl) (tt_t 201 (by decide +kernel) rfl) (tt_t 202 (by decide +kernel) rfl) (tt_t 2 (by decide +kernel) rfl)) cm_M_has
set_option maxRecDepth 100000 in
theorem cm_isGreen : Cond.code yX3_isGreen cX3_isGreen 3 (some .boolean) ∈ TT := tt_t 207 rfl rfl
theorem dd_isGreen : yX3_isGreen.cls = RX3 ∧ yX3_isGreen.cls ≠ "java/lang/invoke/MethodHandle" ∧ yX3_isGreen.cls ≠ "java/lang/invoke/VarHandle" ∧ (parseMethodDescriptor yX3_isGreen.desc).map (fun d => d.parameters.length) = some 1 := by decide +kernel
theorem gv_3_77 : GoodIn TT (wsV RX3 77 RX3 yX3_isGreen (Cond.code yX3_isGreen cX3_isGreen 3 (some .boolean) :: TT)) := jk_GV TT_good (jk_4 (tt_t 204 (by decide +kernel) rfl) (tt_t 206 (by decide +kernel) rfl) (tt_s 0 (by decide +kernel) rfl) (tt_t 1 (by decide +kernel) rfl)) cm_isGreen
set_option maxRecDepth 100000 in
theorem cm_tick : Cond.code yX3_tick cX3_tick 2 (some .int) ∈ TT := tt_t 226 rfl rfl
theorem dd_tick : yX3_tick.cls = RX3 ∧ yX3_tick.cls ≠ "java/lang/invoke/MethodHandle" ∧ yX3_tick.cls ≠ "java/lang/invoke/VarHandle" ∧ (parseMethodDescriptor yX3_tick.desc).map (fun d => d.parameters.length) = some 0 := by decide +kernel
theorem gv_3_89 : GoodIn TT (wsV RX3 89 RX3 yX3_tick (Cond.code yX3_tick cX3_tick 2 (some .int) :: TT)) := jk_GV TT_good (jk_4 (tt_t 223 (by decide +kernel) rfl) (tt_t 225 (by decide +kernel) rfl) (tt_s 1 (by decide +kernel) rfl) (tt_t 1 (by decide +kernel) rfl)) cm_tick
set_option maxRecDepth 100000 in
theorem cm_isFlashing : Cond.code yX3_isFlashing cX3_isFlashing 1 (some .boolean) ∈ TT := tt_t 230 rfl rfl
theorem dd_isFlashing : yX3_isFlashing.cls = RX3 ∧ yX3_isFlashing.cls ≠ "java/lang/invoke/MethodHandle" ∧ yX3_isFlashing.cls ≠ "java/lang/invoke/VarHandle" ∧ (parseMethodDescriptor yX3_isFlashing.desc).map (fun d => d.parameters.length) = some 0 := by decide +kernel
theorem gv_3_93 : GoodIn TT (wsV RX3 93 RX3 yX3_isFlashing (Cond.code yX3_isFlashing cX3_isFlashing 1 (some .boolean) :: TT)) := jk_GV TT_good (jk_4 (tt_t 227 (by decide +kernel) rfl) (tt_t 229 (by decide +kernel) rfl) (tt_s 2 (by decide +kernel) rfl) (tt_t 1 (by decide +kernel) rfl)) cm_isFlashing
set_option maxRecDepth 100000 in
theorem cm_R_goDark : Cond.code yX2_goDark cX2_goDark 1 none ∈ TT := tt_t 279 rfl rfl
theorem dd_R_goDark : yX2_goDark.cls = RX2 ∧ yX2_goDark.cls ≠ "java/lang/invoke/MethodHandle" ∧ yX2_goDark.cls ≠ "java/lang/invoke/VarHandle" ∧ (parseMethodDescriptor yX2_goDark.desc).map (fun d => d.parameters.length) = some 0 := by decide +kernel
theorem gv_3_97 : GoodIn TT (wsV RX3 97 RX2 yX2_goDark (Cond.code yX2_goDark cX2_goDark 1 none :: TT)) := jk_GV TT_good (jk_4 (tt_t 385 (by decide +kernel) rfl) (tt_t 277 (by decide +kernel) rfl) (tt_t 278 (by decide +kernel) rfl) (tt_t 3 (by decide +kernel) rfl)) cm_R_goDark
set_option maxRecDepth 100000 in
theorem cm_G_forget : Cond.code yX0_forget cX0_forget 2 none ∈ TT := tt_t 389 rfl rfl
theorem dd_G_forget : yX0_forget.cls = RX0 ∧ yX0_forget.cls ≠ "java/lang/invoke/MethodHandle" ∧ yX0_forget.cls ≠ "java/lang/invoke/VarHandle" ∧ (parseMethodDescriptor yX0_forget.desc).map (fun d => d.parameters.length) = some 0 := by decide +kernel
theorem gv_3_109 : GoodIn TT (wsV RX3 109 RX0 yX0_forget (Cond.code yX0_forget cX0_forget 2 none :: TT)) := jk_GV TT_good (jk_4 (tt_t 386 (by decide +kernel) rfl) (tt_t 387 (by decide +kernel) rfl) (tt_t 388 (by decide +kernel) rfl) (tt_t 4 (by decide +kernel) rfl)) cm_G_forget
set_option maxRecDepth 100000 in
theorem cm_shownLight : Cond.code yX3_shownLight cX3_shownLight 3 (some .int) ∈ TT := tt_t 358 rfl rfl
theorem dd_shownLight : yX3_shownLight.cls = RX3 ∧ yX3_shownLight.cls ≠ "java/lang/invoke/MethodHandle" ∧ yX3_shownLight.cls ≠ "java/lang/invoke/VarHandle" ∧ (parseMethodDescriptor yX3_shownLight.desc).map (fun d => d.parameters.length) = some 1 := by decide +kernel
theorem gv_3_112 : GoodIn TT (wsV RX3 112 RX3 yX3_shownLight (Cond.code yX3_shownLight cX3_shownLight 3 (some .int) :: TT)) := jk_GV TT_good (jk_4 (tt_t 355 (by decide +kernel) rfl) (tt_t 357 (by decide +kernel) rfl) (tt_s 19 (by decide +kernel) rfl) (tt_t 1 (by decide +kernel) rfl)) cm_shownLight
set_option maxRecDepth 100000 in
theorem cm_ringOf : Cond.code yX3_ringOf cX3_ringOf 1 (some .int) ∈ TT := tt_t 210 rfl rfl
theorem dd_ringOf : yX3_ringOf.cls ≠ "java/lang/invoke/MethodHandle" ∧ yX3_ringOf.cls ≠ "java/lang/invoke/VarHandle" ∧ (parseMethodDescriptor yX3_ringOf.desc).map (fun d => d.parameters.length) = some 1 := by decide +kernel
theorem gv_3_115 : GoodIn TT (va_wsS RX3 115 yX3_ringOf (Cond.code yX3_ringOf cX3_ringOf 1 (some .int) :: TT)) := jk_GS TT_good (jk_3 (tt_t 208 (by decide +kernel) rfl) (tt_t 209 (by decide +kernel) rfl) (tt_t 1 (by decide +kernel) rfl)) cm_ringOf
set_option maxRecDepth 100000 in
theorem cm_R_walking : Cond.code yX2_walking cX2_walking 1 (some .int) ∈ TT := tt_t 295 rfl rfl
theorem dd_R_walking : yX2_walking.cls = RX2 ∧ yX2_walking.cls ≠ "java/lang/invoke/MethodHandle" ∧ yX2_walking.cls ≠ "java/lang/invoke/VarHandle" ∧ (parseMethodDescriptor yX2_walking.desc).map (fun d => d.parameters.length) = some 0 := by decide +kernel
theorem gv_3_118 : GoodIn TT (wsV RX3 118 RX2 yX2_walking (Cond.code yX2_walking cX2_walking 1 (some .int) :: TT)) := jk_GV TT_good (jk_4 (tt_t 394 (by decide +kernel) rfl) (tt_t 293 (by decide +kernel) rfl) (tt_t 294 (by decide +kernel) rfl) (tt_t 3 (by decide +kernel) rfl)) cm_R_walking
set_option maxRecDepth 100000 in
theorem cm_isCalled : Cond.code yX3_isCalled cX3_isCalled 2 (some .boolean) ∈ TT := tt_t 238 rfl rfl
theorem dd_isCalled : yX3_isCalled.cls = RX3 ∧ yX3_isCalled.cls ≠ "java/lang/invoke/MethodHandle" ∧ yX3_isCalled.cls ≠ "java/lang/invoke/VarHandle" ∧ (parseMethodDescriptor yX3_isCalled.desc).map (fun d => d.parameters.length) = some 1 := by decide +kernel
theorem gv_3_121 : GoodIn TT (wsV RX3 121 RX3 yX3_isCalled (Cond.code yX3_isCalled cX3_isCalled 2 (some .boolean) :: TT)) := jk_GV TT_good (jk_4 (tt_t 235 (by decide +kernel) rfl) (tt_t 237 (by decide +kernel) rfl) (tt_s 4 (by decide +kernel) rfl) (tt_t 1 (by decide +kernel) rfl)) cm_isCalled
set_option maxRecDepth 100000 in
theorem cm_number : Cond.code yX3_number cX3_number 1 (some .int) ∈ TT := tt_t 397 rfl rfl
theorem dd_number : yX3_number.cls ≠ "java/lang/invoke/MethodHandle" ∧ yX3_number.cls ≠ "java/lang/invoke/VarHandle" ∧ (parseMethodDescriptor yX3_number.desc).map (fun d => d.parameters.length) = some 1 := by decide +kernel
theorem gv_3_124 : GoodIn TT (va_wsS RX3 124 yX3_number (Cond.code yX3_number cX3_number 1 (some .int) :: TT)) := jk_GS TT_good (jk_3 (tt_t 395 (by decide +kernel) rfl) (tt_t 396 (by decide +kernel) rfl) (tt_t 1 (by decide +kernel) rfl)) cm_number
set_option maxRecDepth 100000 in
theorem cm_mayEnd : Cond.code yX3_mayEnd cX3_mayEnd 2 (some .boolean) ∈ TT := tt_t 287 rfl rfl
theorem dd_mayEnd : yX3_mayEnd.cls = RX3 ∧ yX3_mayEnd.cls ≠ "java/lang/invoke/MethodHandle" ∧ yX3_mayEnd.cls ≠ "java/lang/invoke/VarHandle" ∧ (parseMethodDescriptor yX3_mayEnd.desc).map (fun d => d.parameters.length) = some 1 := by decide +kernel
theorem gv_3_152 : GoodIn TT (wsV RX3 152 RX3 yX3_mayEnd (Cond.code yX3_mayEnd cX3_mayEnd 2 (some .boolean) :: TT)) := jk_GV TT_good (jk_4 (tt_t 284 (by decide +kernel) rfl) (tt_t 286 (by decide +kernel) rfl) (tt_s 9 (by decide +kernel) rfl) (tt_t 1 (by decide +kernel) rfl)) cm_mayEnd
set_option maxRecDepth 100000 in
theorem cm_toldLight : Cond.code yX3_toldLight cX3_toldLight 3 (some .int) ∈ TT := tt_t 362 rfl rfl
theorem dd_toldLight : yX3_toldLight.cls = RX3 ∧ yX3_toldLight.cls ≠ "java/lang/invoke/MethodHandle" ∧ yX3_toldLight.cls ≠ "java/lang/invoke/VarHandle" ∧ (parseMethodDescriptor yX3_toldLight.desc).map (fun d => d.parameters.length) = some 1 := by decide +kernel
theorem gv_3_165 : GoodIn TT (wsV RX3 165 RX3 yX3_toldLight (Cond.code yX3_toldLight cX3_toldLight 3 (some .int) :: TT)) := jk_GV TT_good (jk_4 (tt_t 359 (by decide +kernel) rfl) (tt_t 361 (by decide +kernel) rfl) (tt_s 20 (by decide +kernel) rfl) (tt_t 1 (by decide +kernel) rfl)) cm_toldLight
set_option maxRecDepth 100000 in
theorem cm_anyInTheWay : Cond.code yX3_anyInTheWay cX3_anyInTheWay 3 (some .boolean) ∈ TT := tt_t 369 rfl rfl
theorem dd_anyInTheWay : yX3_anyInTheWay.cls ≠ "java/lang/invoke/MethodHandle" ∧ yX3_anyInTheWay.cls ≠ "java/lang/invoke/VarHandle" ∧ (parseMethodDescriptor yX3_anyInTheWay.desc).map (fun d => d.parameters.length) = some 1 := by decide +kernel
theorem gv_3_168 : GoodIn TT (va_wsS RX3 168 yX3_anyInTheWay (Cond.code yX3_anyInTheWay cX3_anyInTheWay 3 (some .boolean) :: TT)) := jk_GS TT_good (jk_3 (tt_t 410 (by decide +kernel) rfl) (tt_t 368 (by decide +kernel) rfl) (tt_t 1 (by decide +kernel) rfl)) cm_anyInTheWay
set_option maxRecDepth 100000 in
theorem cm_countWaits : Cond.code yX3_countWaits cX3_countWaits 2 none ∈ TT := tt_t 234 rfl rfl
theorem dd_countWaits : yX3_countWaits.cls = RX3 ∧ yX3_countWaits.cls ≠ "java/lang/invoke/MethodHandle" ∧ yX3_countWaits.cls ≠ "java/lang/invoke/VarHandle" ∧ (parseMethodDescriptor yX3_countWaits.desc).map (fun d => d.parameters.length) = some 0 := by decide +kernel
theorem gv_3_172 : GoodIn TT (wsV RX3 172 RX3 yX3_countWaits (Cond.code yX3_countWaits cX3_countWaits 2 none :: TT)) := jk_GV TT_good (jk_4 (tt_t 231 (by decide +kernel) rfl) (tt_t 233 (by decide +kernel) rfl) (tt_s 3 (by decide +kernel) rfl) (tt_t 1 (by decide +kernel) rfl)) cm_countWaits
set_option maxRecDepth 100000 in
theorem cm_advanceRings : Cond.code yX3_advanceRings cX3_advanceRings 4 none ∈ TT := tt_t 254 rfl rfl
theorem dd_advanceRings : yX3_advanceRings.cls = RX3 ∧ yX3_advanceRings.cls ≠ "java/lang/invoke/MethodHandle" ∧ yX3_advanceRings.cls ≠ "java/lang/invoke/VarHandle" ∧ (parseMethodDescriptor yX3_advanceRings.desc).map (fun d => d.parameters.length) = some 0 := by decide +kernel
theorem gv_3_175 : GoodIn TT (wsV RX3 175 RX3 yX3_advanceRings (Cond.code yX3_advanceRings cX3_advanceRings 4 none :: TT)) := jk_GV TT_good (jk_4 (tt_t 251 (by decide +kernel) rfl) (tt_t 253 (by decide +kernel) rfl) (tt_s 5 (by decide +kernel) rfl) (tt_t 1 (by decide +kernel) rfl)) cm_advanceRings
set_option maxRecDepth 100000 in
theorem cm_goOnWithinSide : Cond.code yX3_goOnWithinSide cX3_goOnWithinSide 3 none ∈ TT := tt_t 283 rfl rfl
theorem dd_goOnWithinSide : yX3_goOnWithinSide.cls = RX3 ∧ yX3_goOnWithinSide.cls ≠ "java/lang/invoke/MethodHandle" ∧ yX3_goOnWithinSide.cls ≠ "java/lang/invoke/VarHandle" ∧ (parseMethodDescriptor yX3_goOnWithinSide.desc).map (fun d => d.parameters.length) = some 1 := by decide +kernel
theorem gv_3_178 : GoodIn TT (wsV RX3 178 RX3 yX3_goOnWithinSide (Cond.code yX3_goOnWithinSide cX3_goOnWithinSide 3 none :: TT)) := jk_GV TT_good (jk_4 (tt_t 280 (by decide +kernel) rfl) (tt_t 282 (by decide +kernel) rfl) (tt_s 8 (by decide +kernel) rfl) (tt_t 1 (by decide +kernel) rfl)) cm_goOnWithinSide
set_option maxRecDepth 100000 in
theorem cm_leaveSideOrTurnBack : Cond.code yX3_leaveSideOrTurnBack cX3_leaveSideOrTurnBack 2 none ∈ TT := tt_t 310 rfl rfl
theorem dd_leaveSideOrTurnBack : yX3_leaveSideOrTurnBack.cls = RX3 ∧ yX3_leaveSideOrTurnBack.cls ≠ "java/lang/invoke/MethodHandle" ∧ yX3_leaveSideOrTurnBack.cls ≠ "java/lang/invoke/VarHandle" ∧ (parseMethodDescriptor yX3_leaveSideOrTurnBack.desc).map (fun d => d.parameters.length) = some 0 := by decide +kernel
theorem gv_3_182 : GoodIn TT (wsV RX3 182 RX3 yX3_leaveSideOrTurnBack (Cond.code yX3_leaveSideOrTurnBack cX3_leaveSideOrTurnBack 2 none :: TT)) := jk_GV TT_good (jk_4 (tt_t 307 (by decide +kernel) rfl) (tt_t 309 (by decide +kernel) rfl) (tt_s 11 (by decide +kernel) rfl) (tt_t 1 (by decide +kernel) rfl)) cm_leaveSideOrTurnBack
set_option maxRecDepth 100000 in
theorem cm_endCrossing : Cond.code yX3_endCrossing cX3_endCrossing 4 none ∈ TT := tt_t 326 rfl rfl
theorem dd_endCrossing : yX3_endCrossing.cls = RX3 ∧ yX3_endCrossing.cls ≠ "java/lang/invoke/MethodHandle" ∧ yX3_endCrossing.cls ≠ "java/lang/invoke/VarHandle" ∧ (parseMethodDescriptor yX3_endCrossing.desc).map (fun d => d.parameters.length) = some 0 := by decide +kernel
theorem gv_3_185 : GoodIn TT (wsV RX3 185 RX3 yX3_endCrossing (Cond.code yX3_endCrossing cX3_endCrossing 4 none :: TT)) := jk_GV TT_good (jk_4 (tt_t 323 (by decide +kernel) rfl) (tt_t 325 (by decide +kernel) rfl) (tt_s 15 (by decide +kernel) rfl) (tt_t 1 (by decide +kernel) rfl)) cm_endCrossing
set_option maxRecDepth 100000 in
theorem cm_beginGreens : Cond.code yX3_beginGreens cX3_beginGreens 5 (some .int) ∈ TT := tt_t 338 rfl rfl
theorem dd_beginGreens : yX3_beginGreens.cls = RX3 ∧ yX3_beginGreens.cls ≠ "java/lang/invoke/MethodHandle" ∧ yX3_beginGreens.cls ≠ "java/lang/invoke/VarHandle" ∧ (parseMethodDescriptor yX3_beginGreens.desc).map (fun d => d.parameters.length) = some 0 := by decide +kernel
theorem gv_3_188 : GoodIn TT (wsV RX3 188 RX3 yX3_beginGreens (Cond.code yX3_beginGreens cX3_beginGreens 5 (some .int) :: TT)) := jk_GV TT_good (jk_4 (tt_t 335 (by decide +kernel) rfl) (tt_t 337 (by decide +kernel) rfl) (tt_s 17 (by decide +kernel) rfl) (tt_t 1 (by decide +kernel) rfl)) cm_beginGreens
set_option maxRecDepth 100000 in
theorem cm_showLightsToGuard : Cond.code yX3_showLightsToGuard cX3_showLightsToGuard 2 none ∈ TT := tt_t 354 rfl rfl
theorem dd_showLightsToGuard : yX3_showLightsToGuard.cls = RX3 ∧ yX3_showLightsToGuard.cls ≠ "java/lang/invoke/MethodHandle" ∧ yX3_showLightsToGuard.cls ≠ "java/lang/invoke/VarHandle" ∧ (parseMethodDescriptor yX3_showLightsToGuard.desc).map (fun d => d.parameters.length) = some 0 := by decide +kernel
theorem gv_3_191 : GoodIn TT (wsV RX3 191 RX3 yX3_showLightsToGuard (Cond.code yX3_showLightsToGuard cX3_showLightsToGuard 2 none :: TT)) := jk_GV TT_good (jk_4 (tt_t 351 (by decide +kernel) rfl) (tt_t 353 (by decide +kernel) rfl) (tt_s 18 (by decide +kernel) rfl) (tt_t 1 (by decide +kernel) rfl)) cm_showLightsToGuard
set_option maxRecDepth 100000 in
theorem cm_M_countWait : Cond.code yX1_countWait cX1_countWait 2 none ∈ TT := tt_t 247 rfl rfl
theorem dd_M_countWait : yX1_countWait.cls = RX1 ∧ yX1_countWait.cls ≠ "java/lang/invoke/MethodHandle" ∧ yX1_countWait.cls ≠ "java/lang/invoke/VarHandle" ∧ (parseMethodDescriptor yX1_countWait.desc).map (fun d => d.parameters.length) = some 1 := by decide +kernel
theorem gv_3_194 : GoodIn TT (wsV RX3 194 RX1 yX1_countWait (Cond.code yX1_countWait cX1_countWait 2 none :: TT)) := jk_GV TT_good (jk_4 (tt_t 244 (by decide +kernel) rfl) (tt_t 245 (by decide +kernel) rfl) (tt_t 246 (by decide +kernel) rfl) (tt_t 2 (by decide +kernel) rfl)) cm_M_countWait
set_option maxRecDepth 100000 in
theorem cm_isAnyCalledOn : Cond.code yX3_isAnyCalledOn cX3_isAnyCalledOn 3 (some .boolean) ∈ TT := tt_t 258 rfl rfl
theorem dd_isAnyCalledOn : yX3_isAnyCalledOn.cls = RX3 ∧ yX3_isAnyCalledOn.cls ≠ "java/lang/invoke/MethodHandle" ∧ yX3_isAnyCalledOn.cls ≠ "java/lang/invoke/VarHandle" ∧ (parseMethodDescriptor yX3_isAnyCalledOn.desc).map (fun d => d.parameters.length) = some 1 := by decide +kernel
theorem gv_3_198 : GoodIn TT (wsV RX3 198 RX3 yX3_isAnyCalledOn (Cond.code yX3_isAnyCalledOn cX3_isAnyCalledOn 3 (some .boolean) :: TT)) := jk_GV TT_good (jk_4 (tt_t 255 (by decide +kernel) rfl) (tt_t 257 (by decide +kernel) rfl) (tt_s 6 (by decide +kernel) rfl) (tt_t 1 (by decide +kernel) rfl)) cm_isAnyCalledOn
set_option maxRecDepth 100000 in
theorem cm_R_advanceGreen : Cond.code yX2_advanceGreen cX2_advanceGreen 3 none ∈ TT := tt_t 265 rfl rfl
theorem dd_R_advanceGreen : yX2_advanceGreen.cls = RX2 ∧ yX2_advanceGreen.cls ≠ "java/lang/invoke/MethodHandle" ∧ yX2_advanceGreen.cls ≠ "java/lang/invoke/VarHandle" ∧ (parseMethodDescriptor yX2_advanceGreen.desc).map (fun d => d.parameters.length) = some 2 := by decide +kernel
theorem gv_3_201 : GoodIn TT (wsV RX3 201 RX2 yX2_advanceGreen (Cond.code yX2_advanceGreen cX2_advanceGreen 3 none :: TT)) := jk_GV TT_good (jk_4 (tt_t 262 (by decide +kernel) rfl) (tt_t 263 (by decide +kernel) rfl) (tt_t 264 (by decide +kernel) rfl) (tt_t 3 (by decide +kernel) rfl)) cm_R_advanceGreen
set_option maxRecDepth 100000 in
theorem cm_R_advanceEnding : Cond.code yX2_advanceEnding cX2_advanceEnding 2 none ∈ TT := tt_t 271 rfl rfl
theorem dd_R_advanceEnding : yX2_advanceEnding.cls = RX2 ∧ yX2_advanceEnding.cls ≠ "java/lang/invoke/MethodHandle" ∧ yX2_advanceEnding.cls ≠ "java/lang/invoke/VarHandle" ∧ (parseMethodDescriptor yX2_advanceEnding.desc).map (fun d => d.parameters.length) = some 1 := by decide +kernel
theorem gv_3_205 : GoodIn TT (wsV RX3 205 RX2 yX2_advanceEnding (Cond.code yX2_advanceEnding cX2_advanceEnding 2 none :: TT)) := jk_GV TT_good (jk_4 (tt_t 268 (by decide +kernel) rfl) (tt_t 269 (by decide +kernel) rfl) (tt_t 270 (by decide +kernel) rfl) (tt_t 3 (by decide +kernel) rfl)) cm_R_advanceEnding
set_option maxRecDepth 100000 in
theorem cm_R_endGreen : Cond.code yX2_endGreen cX2_endGreen 2 none ∈ TT := tt_t 299 rfl rfl
theorem dd_R_endGreen : yX2_endGreen.cls = RX2 ∧ yX2_endGreen.cls ≠ "java/lang/invoke/MethodHandle" ∧ yX2_endGreen.cls ≠ "java/lang/invoke/VarHandle" ∧ (parseMethodDescriptor yX2_endGreen.desc).map (fun d => d.parameters.length) = some 1 := by decide +kernel
theorem gv_3_209 : GoodIn TT (wsV RX3 209 RX2 yX2_endGreen (Cond.code yX2_endGreen cX2_endGreen 2 none :: TT)) := jk_GV TT_good (jk_4 (tt_t 296 (by decide +kernel) rfl) (tt_t 297 (by decide +kernel) rfl) (tt_t 298 (by decide +kernel) rfl) (tt_t 3 (by decide +kernel) rfl)) cm_R_endGreen
set_option maxRecDepth 100000 in
theorem cm_isIdle : Cond.code yX3_isIdle cX3_isIdle 1 (some .boolean) ∈ TT := tt_t 302 rfl rfl
theorem dd_isIdle : yX3_isIdle.cls ≠ "java/lang/invoke/MethodHandle" ∧ yX3_isIdle.cls ≠ "java/lang/invoke/VarHandle" ∧ (parseMethodDescriptor yX3_isIdle.desc).map (fun d => d.parameters.length) = some 1 := by decide +kernel
theorem gv_3_212 : GoodIn TT (va_wsS RX3 212 yX3_isIdle (Cond.code yX3_isIdle cX3_isIdle 1 (some .boolean) :: TT)) := jk_GS TT_good (jk_3 (tt_t 300 (by decide +kernel) rfl) (tt_t 301 (by decide +kernel) rfl) (tt_t 1 (by decide +kernel) rfl)) cm_isIdle
set_option maxRecDepth 100000 in
theorem cm_calledOn : Cond.code yX3_calledOn cX3_calledOn 3 (some .int) ∈ TT := tt_t 306 rfl rfl
theorem dd_calledOn : yX3_calledOn.cls = RX3 ∧ yX3_calledOn.cls ≠ "java/lang/invoke/MethodHandle" ∧ yX3_calledOn.cls ≠ "java/lang/invoke/VarHandle" ∧ (parseMethodDescriptor yX3_calledOn.desc).map (fun d => d.parameters.length) = some 2 := by decide +kernel
theorem gv_3_215 : GoodIn TT (wsV RX3 215 RX3 yX3_calledOn (Cond.code yX3_calledOn cX3_calledOn 3 (some .int) :: TT)) := jk_GV TT_good (jk_4 (tt_t 303 (by decide +kernel) rfl) (tt_t 305 (by decide +kernel) rfl) (tt_s 10 (by decide +kernel) rfl) (tt_t 1 (by decide +kernel) rfl)) cm_calledOn
set_option maxRecDepth 100000 in
theorem cm_turnBackToFirst : Cond.code yX3_turnBackToFirst cX3_turnBackToFirst 3 none ∈ TT := tt_t 314 rfl rfl
theorem dd_turnBackToFirst : yX3_turnBackToFirst.cls = RX3 ∧ yX3_turnBackToFirst.cls ≠ "java/lang/invoke/MethodHandle" ∧ yX3_turnBackToFirst.cls ≠ "java/lang/invoke/VarHandle" ∧ (parseMethodDescriptor yX3_turnBackToFirst.desc).map (fun d => d.parameters.length) = some 1 := by decide +kernel
theorem gv_3_219 : GoodIn TT (wsV RX3 219 RX3 yX3_turnBackToFirst (Cond.code yX3_turnBackToFirst cX3_turnBackToFirst 3 none :: TT)) := jk_GV TT_good (jk_4 (tt_t 311 (by decide +kernel) rfl) (tt_t 313 (by decide +kernel) rfl) (tt_s 12 (by decide +kernel) rfl) (tt_t 1 (by decide +kernel) rfl)) cm_turnBackToFirst
set_option maxRecDepth 100000 in
theorem cm_isReady : Cond.code yX3_isReady cX3_isReady 2 (some .boolean) ∈ TT := tt_t 318 rfl rfl
theorem dd_isReady : yX3_isReady.cls = RX3 ∧ yX3_isReady.cls ≠ "java/lang/invoke/MethodHandle" ∧ yX3_isReady.cls ≠ "java/lang/invoke/VarHandle" ∧ (parseMethodDescriptor yX3_isReady.desc).map (fun d => d.parameters.length) = some 1 := by decide +kernel
theorem gv_3_222 : GoodIn TT (wsV RX3 222 RX3 yX3_isReady (Cond.code yX3_isReady cX3_isReady 2 (some .boolean) :: TT)) := jk_GV TT_good (jk_4 (tt_t 315 (by decide +kernel) rfl) (tt_t 317 (by decide +kernel) rfl) (tt_s 13 (by decide +kernel) rfl) (tt_t 1 (by decide +kernel) rfl)) cm_isReady
set_option maxRecDepth 100000 in
theorem cm_beginCrossing : Cond.code yX3_beginCrossing cX3_beginCrossing 2 none ∈ TT := tt_t 322 rfl rfl
theorem dd_beginCrossing : yX3_beginCrossing.cls = RX3 ∧ yX3_beginCrossing.cls ≠ "java/lang/invoke/MethodHandle" ∧ yX3_beginCrossing.cls ≠ "java/lang/invoke/VarHandle" ∧ (parseMethodDescriptor yX3_beginCrossing.desc).map (fun d => d.parameters.length) = some 0 := by decide +kernel
theorem gv_3_225 : GoodIn TT (wsV RX3 225 RX3 yX3_beginCrossing (Cond.code yX3_beginCrossing cX3_beginCrossing 2 none :: TT)) := jk_GV TT_good (jk_4 (tt_t 319 (by decide +kernel) rfl) (tt_t 321 (by decide +kernel) rfl) (tt_s 14 (by decide +kernel) rfl) (tt_t 1 (by decide +kernel) rfl)) cm_beginCrossing
set_option maxRecDepth 100000 in
theorem cm_comingAlongOn : Cond.code yX3_comingAlongOn cX3_comingAlongOn 3 (some .int) ∈ TT := tt_t 330 rfl rfl
theorem dd_comingAlongOn : yX3_comingAlongOn.cls = RX3 ∧ yX3_comingAlongOn.cls ≠ "java/lang/invoke/MethodHandle" ∧ yX3_comingAlongOn.cls ≠ "java/lang/invoke/VarHandle" ∧ (parseMethodDescriptor yX3_comingAlongOn.desc).map (fun d => d.parameters.length) = some 2 := by decide +kernel
theorem gv_3_228 : GoodIn TT (wsV RX3 228 RX3 yX3_comingAlongOn (Cond.code yX3_comingAlongOn cX3_comingAlongOn 3 (some .int) :: TT)) := jk_GV TT_good (jk_4 (tt_t 327 (by decide +kernel) rfl) (tt_t 329 (by decide +kernel) rfl) (tt_s 16 (by decide +kernel) rfl) (tt_t 1 (by decide +kernel) rfl)) cm_comingAlongOn
set_option maxRecDepth 100000 in
theorem cm_R_beginGreen : Cond.code yX2_beginGreen cX2_beginGreen 2 none ∈ TT := tt_t 342 rfl rfl
theorem dd_R_beginGreen : yX2_beginGreen.cls = RX2 ∧ yX2_beginGreen.cls ≠ "java/lang/invoke/MethodHandle" ∧ yX2_beginGreen.cls ≠ "java/lang/invoke/VarHandle" ∧ (parseMethodDescriptor yX2_beginGreen.desc).map (fun d => d.parameters.length) = some 1 := by decide +kernel
theorem gv_3_231 : GoodIn TT (wsV RX3 231 RX2 yX2_beginGreen (Cond.code yX2_beginGreen cX2_beginGreen 2 none :: TT)) := jk_GV TT_good (jk_4 (tt_t 339 (by decide +kernel) rfl) (tt_t 340 (by decide +kernel) rfl) (tt_t 341 (by decide +kernel) rfl) (tt_t 3 (by decide +kernel) rfl)) cm_R_beginGreen
set_option maxRecDepth 100000 in
theorem cm_M_beginGreen : Cond.code yX1_beginGreen cX1_beginGreen 1 none ∈ TT := tt_t 350 rfl rfl
theorem dd_M_beginGreen : yX1_beginGreen.cls = RX1 ∧ yX1_beginGreen.cls ≠ "java/lang/invoke/MethodHandle" ∧ yX1_beginGreen.cls ≠ "java/lang/invoke/VarHandle" ∧ (parseMethodDescriptor yX1_beginGreen.desc).map (fun d => d.parameters.length) = some 0 := by decide +kernel
theorem gv_3_234 : GoodIn TT (wsV RX3 234 RX1 yX1_beginGreen (Cond.code yX1_beginGreen cX1_beginGreen 1 none :: TT)) := jk_GV TT_good (jk_4 (tt_t 347 (by decide +kernel) rfl) (tt_t 348 (by decide +kernel) rfl) (tt_t 349 (by decide +kernel) rfl) (tt_t 2 (by decide +kernel) rfl)) cm_M_beginGreen
set_option maxRecDepth 100000 in
theorem cm_G_look : Cond.code yX0_look cX0_look 4 none ∈ TT := tt_t 366 rfl rfl
theorem dd_G_look : yX0_look.cls = RX0 ∧ yX0_look.cls ≠ "java/lang/invoke/MethodHandle" ∧ yX0_look.cls ≠ "java/lang/invoke/VarHandle" ∧ (parseMethodDescriptor yX0_look.desc).map (fun d => d.parameters.length) = some 1 := by decide +kernel
theorem gv_3_236 : GoodIn TT (wsV RX3 236 RX0 yX0_look (Cond.code yX0_look cX0_look 4 none :: TT)) := jk_GV TT_good (jk_4 (tt_t 363 (by decide +kernel) rfl) (tt_t 364 (by decide +kernel) rfl) (tt_t 365 (by decide +kernel) rfl) (tt_t 4 (by decide +kernel) rfl)) cm_G_look
set_option maxRecDepth 100000 in
theorem cm_M_comesAlong : Cond.code yX1_comesAlong cX1_comesAlong 1 (some .boolean) ∈ TT := tt_t 334 rfl rfl
theorem dd_M_comesAlong : yX1_comesAlong.cls = RX1 ∧ yX1_comesAlong.cls ≠ "java/lang/invoke/MethodHandle" ∧ yX1_comesAlong.cls ≠ "java/lang/invoke/VarHandle" ∧ (parseMethodDescriptor yX1_comesAlong.desc).map (fun d => d.parameters.length) = some 0 := by decide +kernel
theorem gv_3_240 : GoodIn TT (wsV RX3 240 RX1 yX1_comesAlong (Cond.code yX1_comesAlong cX1_comesAlong 1 (some .boolean) :: TT)) := jk_GV TT_good (jk_4 (tt_t 331 (by decide +kernel) rfl) (tt_t 332 (by decide +kernel) rfl) (tt_t 333 (by decide +kernel) rfl) (tt_t 2 (by decide +kernel) rfl)) cm_M_comesAlong
set_option maxRecDepth 100000 in
theorem cm_sideOf : Cond.code yX3_sideOf cX3_sideOf 1 (some .int) ∈ TT := tt_t 261 rfl rfl
theorem dd_sideOf : yX3_sideOf.cls ≠ "java/lang/invoke/MethodHandle" ∧ yX3_sideOf.cls ≠ "java/lang/invoke/VarHandle" ∧ (parseMethodDescriptor yX3_sideOf.desc).map (fun d => d.parameters.length) = some 1 := by decide +kernel
theorem gv_3_243 : GoodIn TT (va_wsS RX3 243 yX3_sideOf (Cond.code yX3_sideOf cX3_sideOf 1 (some .int) :: TT)) := jk_GS TT_good (jk_3 (tt_t 259 (by decide +kernel) rfl) (tt_t 260 (by decide +kernel) rfl) (tt_t 1 (by decide +kernel) rfl)) cm_sideOf
set_option maxRecDepth 100000 in
theorem cm_M_isWanted : Cond.code yX1_isWanted cX1_isWanted 2 (some .boolean) ∈ TT := tt_t 242 rfl rfl
theorem dd_M_isWanted : yX1_isWanted.cls = RX1 ∧ yX1_isWanted.cls ≠ "java/lang/invoke/MethodHandle" ∧ yX1_isWanted.cls ≠ "java/lang/invoke/VarHandle" ∧ (parseMethodDescriptor yX1_isWanted.desc).map (fun d => d.parameters.length) = some 0 := by decide +kernel
theorem gv_3_246 : GoodIn TT (wsV RX3 246 RX1 yX1_isWanted (Cond.code yX1_isWanted cX1_isWanted 2 (some .boolean) :: TT)) := jk_GV TT_good (jk_4 (tt_t 239 (by decide +kernel) rfl) (tt_t 240 (by decide +kernel) rfl) (tt_t 241 (by decide +kernel) rfl) (tt_t 2 (by decide +kernel) rfl)) cm_M_isWanted
set_option maxRecDepth 100000 in
theorem cm_R_mayEndGreen : Cond.code yX2_mayEndGreen cX2_mayEndGreen 3 (some .boolean) ∈ TT := tt_t 291 rfl rfl
theorem dd_R_mayEndGreen : yX2_mayEndGreen.cls = RX2 ∧ yX2_mayEndGreen.cls ≠ "java/lang/invoke/MethodHandle" ∧ yX2_mayEndGreen.cls ≠ "java/lang/invoke/VarHandle" ∧ (parseMethodDescriptor yX2_mayEndGreen.desc).map (fun d => d.parameters.length) = some 1 := by decide +kernel
theorem gv_3_249 : GoodIn TT (wsV RX3 249 RX2 yX2_mayEndGreen (Cond.code yX2_mayEndGreen cX2_mayEndGreen 3 (some .boolean) :: TT)) := jk_GV TT_good (jk_4 (tt_t 288 (by decide +kernel) rfl) (tt_t 289 (by decide +kernel) rfl) (tt_t 290 (by decide +kernel) rfl) (tt_t 3 (by decide +kernel) rfl)) cm_R_mayEndGreen
set_option maxRecDepth 100000 in
theorem cm_areInWay : Cond.code yX3_areInWay cX3_areInWay 2 (some .boolean) ∈ TT := tt_t 372 rfl rfl
theorem dd_areInWay : yX3_areInWay.cls ≠ "java/lang/invoke/MethodHandle" ∧ yX3_areInWay.cls ≠ "java/lang/invoke/VarHandle" ∧ (parseMethodDescriptor yX3_areInWay.desc).map (fun d => d.parameters.length) = some 2 := by decide +kernel
theorem gv_3_252 : GoodIn TT (va_wsS RX3 252 yX3_areInWay (Cond.code yX3_areInWay cX3_areInWay 2 (some .boolean) :: TT)) := jk_GS TT_good (jk_3 (tt_t 370 (by decide +kernel) rfl) (tt_t 371 (by decide +kernel) rfl) (tt_t 1 (by decide +kernel) rfl)) cm_areInWay
theorem gc_anyInTheWay : GoodIn TT (Cond.code yX3_anyInTheWay cX3_anyInTheWay 3 (some .boolean) :: TT) := jk_GI TT_good cm_anyInTheWay
theorem ini_anyInTheWay : Cond.initialized yX3_anyInTheWay.cls ∈ TT := tt_t 1 (by decide +kernel) rfl
theorem sta_anyInTheWay : Cond.static yX3_anyInTheWay ∈ TT := tt_t 368 (by decide +kernel) rfl
set_option maxRecDepth 100000 in
theorem cm_G_leastFault : Cond.code yX0_leastFault cX0_leastFault 5 (some .int) ∈ TT := tt_t 376 rfl rfl
theorem dd_G_leastFault : yX0_leastFault.cls = RX0 ∧ yX0_leastFault.cls ≠ "java/lang/invoke/MethodHandle" ∧ yX0_leastFault.cls ≠ "java/lang/invoke/VarHandle" ∧ (parseMethodDescriptor yX0_leastFault.desc).map (fun d => d.parameters.length) = some 2 := by decide +kernel
theorem gv_0_30 : GoodIn TT (wsV RX0 30 RX0 yX0_leastFault (Cond.code yX0_leastFault cX0_leastFault 5 (some .int) :: TT)) := jk_GV TT_good (jk_4 (tt_t 373 (by decide +kernel) rfl) (tt_t 375 (by decide +kernel) rfl) (tt_s 21 (by decide +kernel) rfl) (tt_t 4 (by decide +kernel) rfl)) cm_G_leastFault
set_option maxRecDepth 100000 in
theorem cm_G_hadShortYellow : Cond.code yX0_hadShortYellow cX0_hadShortYellow 2 (some .boolean) ∈ TT := tt_t 380 rfl rfl
theorem dd_G_hadShortYellow : yX0_hadShortYellow.cls = RX0 ∧ yX0_hadShortYellow.cls ≠ "java/lang/invoke/MethodHandle" ∧ yX0_hadShortYellow.cls ≠ "java/lang/invoke/VarHandle" ∧ (parseMethodDescriptor yX0_hadShortYellow.desc).map (fun d => d.parameters.length) = some 1 := by decide +kernel
theorem gv_0_34 : GoodIn TT (wsV RX0 34 RX0 yX0_hadShortYellow (Cond.code yX0_hadShortYellow cX0_hadShortYellow 2 (some .boolean) :: TT)) := jk_GV TT_good (jk_4 (tt_t 377 (by decide +kernel) rfl) (tt_t 379 (by decide +kernel) rfl) (tt_s 22 (by decide +kernel) rfl) (tt_t 4 (by decide +kernel) rfl)) cm_G_hadShortYellow
theorem gv_1_40 : GoodIn TT (wsV RX1 40 RX1 yX1_has (Cond.code yX1_has cX1_has 2 (some .boolean) :: TT)) := jk_GV TT_good (jk_4 (tt_t 243 (by decide +kernel) rfl) (tt_t 201 (by decide +kernel) rfl) (tt_t 202 (by decide +kernel) rfl) (tt_t 2 (by decide +kernel) rfl)) cm_M_has
theorem gv_2_37 : GoodIn TT (wsV RX2 37 RX2 yX2_walking (Cond.code yX2_walking cX2_walking 1 (some .int) :: TT)) := jk_GV TT_good (jk_4 (tt_t 292 (by decide +kernel) rfl) (tt_t 293 (by decide +kernel) rfl) (tt_t 294 (by decide +kernel) rfl) (tt_t 3 (by decide +kernel) rfl)) cm_R_walking
set_option maxRecDepth 100000 in
theorem cm_R_enter : Cond.code yX2_enter cX2_enter 2 none ∈ TT := tt_t 275 rfl rfl
theorem dd_R_enter : yX2_enter.cls = RX2 ∧ yX2_enter.cls ≠ "java/lang/invoke/MethodHandle" ∧ yX2_enter.cls ≠ "java/lang/invoke/VarHandle" ∧ (parseMethodDescriptor yX2_enter.desc).map (fun d => d.parameters.length) = some 1 := by decide +kernel
theorem gv_2_47 : GoodIn TT (wsV RX2 47 RX2 yX2_enter (Cond.code yX2_enter cX2_enter 2 none :: TT)) := jk_GV TT_good (jk_4 (tt_t 272 (by decide +kernel) rfl) (tt_t 274 (by decide +kernel) rfl) (tt_s 7 (by decide +kernel) rfl) (tt_t 3 (by decide +kernel) rfl)) cm_R_enter
set_option maxRecDepth 100000 in
theorem cm_M_wouldWalk : Cond.code yX1_wouldWalk cX1_wouldWalk 1 (some .boolean) ∈ TT := tt_t 346 rfl rfl
theorem dd_M_wouldWalk : yX1_wouldWalk.cls = RX1 ∧ yX1_wouldWalk.cls ≠ "java/lang/invoke/MethodHandle" ∧ yX1_wouldWalk.cls ≠ "java/lang/invoke/VarHandle" ∧ (parseMethodDescriptor yX1_wouldWalk.desc).map (fun d => d.parameters.length) = some 0 := by decide +kernel
theorem gv_2_57 : GoodIn TT (wsV RX2 57 RX1 yX1_wouldWalk (Cond.code yX1_wouldWalk cX1_wouldWalk 1 (some .boolean) :: TT)) := jk_GV TT_good (jk_4 (tt_t 343 (by decide +kernel) rfl) (tt_t 344 (by decide +kernel) rfl) (tt_t 345 (by decide +kernel) rfl) (tt_t 2 (by decide +kernel) rfl)) cm_M_wouldWalk
theorem gv_2_65 : GoodIn TT (wsV RX2 65 RX1 yX1_has (Cond.code yX1_has cX1_has 2 (some .boolean) :: TT)) := jk_GV TT_good (jk_4 (tt_t 266 (by decide +kernel) rfl) (tt_t 201 (by decide +kernel) rfl) (tt_t 202 (by decide +kernel) rfl) (tt_t 2 (by decide +kernel) rfl)) cm_M_has
theorem gv_2_75 : GoodIn TT (wsV RX2 75 RX2 yX2_goDark (Cond.code yX2_goDark cX2_goDark 1 none :: TT)) := jk_GV TT_good (jk_4 (tt_t 276 (by decide +kernel) rfl) (tt_t 277 (by decide +kernel) rfl) (tt_t 278 (by decide +kernel) rfl) (tt_t 3 (by decide +kernel) rfl)) cm_R_goDark
set_option maxRecDepth 100000 in
theorem mx_code : Cond.code Lib.Math.max.name Lib.Math.max.code 2 (some .int) ∈ TT := tt_t 250 rfl rfl
theorem mx_1_50 : ∀ w ∈ ([.methodLink RX1 50 Lib.Math.max.name, .static Lib.Math.max.name, .initialized "java/lang/Math"] : List Cond), w ∈ TT := jk_3 (tt_t 248 (by decide +kernel) rfl) (tt_t 249 (by decide +kernel) rfl) (tt_t 6 (by decide +kernel) rfl)
theorem mx_2_69 : ∀ w ∈ ([.methodLink RX2 69 Lib.Math.max.name, .static Lib.Math.max.name, .initialized "java/lang/Math"] : List Cond), w ∈ TT := jk_3 (tt_t 267 (by decide +kernel) rfl) (tt_t 249 (by decide +kernel) rfl) (tt_t 6 (by decide +kernel) rfl)
theorem sl_3_40 : Cond.fieldLink RX3 40 RX3 "LOWEST" "[I" ∈ TT := tt_t 169 (by decide +kernel) rfl
theorem sl_3_43 : Cond.fieldLink RX3 43 RX3 "HIGHEST" "[I" ∈ TT := tt_t 171 (by decide +kernel) rfl
theorem jk_out4 {x : Int32} (h0 : ¬ x = (0 : Int32)) (h1 : ¬ x = (1 : Int32)) (h2 : ¬ x = (2 : Int32)) (h3 : ¬ x = (3 : Int32)) (h4 : ¬ x = (4 : Int32)) : x.toInt < 0 ∨ 4 < x.toInt := by
  have hh : ∀ (k : Int32), ¬ x = k → x.toInt ≠ k.toInt := fun k h q => h (Int32.toInt_inj.mp q)
  have g0 : x.toInt ≠ 0 := hh 0 h0
  have g1 : x.toInt ≠ 1 := hh 1 h1
  have g2 : x.toInt ≠ 2 := hh 2 h2
  have g3 : x.toInt ≠ 3 := hh 3 h3
  have g4 : x.toInt ≠ 4 := hh 4 h4
  omega
theorem jk_out6 {x : Int32} (h0 : ¬ x = (0 : Int32)) (h1 : ¬ x = (1 : Int32)) (h2 : ¬ x = (2 : Int32)) (h3 : ¬ x = (3 : Int32)) (h4 : ¬ x = (4 : Int32)) (h5 : ¬ x = (5 : Int32)) (h6 : ¬ x = (6 : Int32)) : x.toInt < 0 ∨ 6 < x.toInt := by
  have hh : ∀ (k : Int32), ¬ x = k → x.toInt ≠ k.toInt := fun k h q => h (Int32.toInt_inj.mp q)
  have g0 : x.toInt ≠ 0 := hh 0 h0
  have g1 : x.toInt ≠ 1 := hh 1 h1
  have g2 : x.toInt ≠ 2 := hh 2 h2
  have g3 : x.toInt ≠ 3 := hh 3 h3
  have g4 : x.toInt ≠ 4 := hh 4 h4
  have g5 : x.toInt ≠ 5 := hh 5 h5
  have g6 : x.toInt ≠ 6 := hh 6 h6
  omega
theorem jk_out8 {x : Int32} (h0 : ¬ x = (0 : Int32)) (h1 : ¬ x = (1 : Int32)) (h2 : ¬ x = (2 : Int32)) (h3 : ¬ x = (3 : Int32)) (h4 : ¬ x = (4 : Int32)) (h5 : ¬ x = (5 : Int32)) (h6 : ¬ x = (6 : Int32)) (h7 : ¬ x = (7 : Int32)) (h8 : ¬ x = (8 : Int32)) : x.toInt < 0 ∨ 8 < x.toInt := by
  have hh : ∀ (k : Int32), ¬ x = k → x.toInt ≠ k.toInt := fun k h q => h (Int32.toInt_inj.mp q)
  have g0 : x.toInt ≠ 0 := hh 0 h0
  have g1 : x.toInt ≠ 1 := hh 1 h1
  have g2 : x.toInt ≠ 2 := hh 2 h2
  have g3 : x.toInt ≠ 3 := hh 3 h3
  have g4 : x.toInt ≠ 4 := hh 4 h4
  have g5 : x.toInt ≠ 5 := hh 5 h5
  have g6 : x.toInt ≠ 6 := hh 6 h6
  have g7 : x.toInt ≠ 7 := hh 7 h7
  have g8 : x.toInt ≠ 8 := hh 8 h8
  omega
