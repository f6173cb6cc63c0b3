theorem bp_50 : (Int8.ofInt (50)).toInt32 = (50 : Int32) := by decide
theorem bp_100 : (Int8.ofInt (100)).toInt32 = (100 : Int32) := by decide
theorem sp_200 : (Int16.ofInt (200)).toInt32 = (200 : Int32) := by decide
theorem lk_4_7 : Cond.fieldLink RX4 7 (TX4 1).1 (TX4 1).2.1 (TX4 1).2.2.1 ∈ TT := tt_t 418 (by decide +kernel) rfl
theorem lk_4_13 : Cond.fieldLink RX4 13 (TX4 2).1 (TX4 2).2.1 (TX4 2).2.2.1 ∈ TT := tt_t 419 (by decide +kernel) rfl
theorem lk_4_16 : Cond.fieldLink RX4 16 (TX4 3).1 (TX4 3).2.1 (TX4 3).2.2.1 ∈ TT := tt_t 420 (by decide +kernel) rfl
theorem lk_4_20 : Cond.fieldLink RX4 20 (TX4 4).1 (TX4 4).2.1 (TX4 4).2.2.1 ∈ TT := tt_t 421 (by decide +kernel) rfl
theorem lk_4_23 : Cond.fieldLink RX4 23 (TX4 5).1 (TX4 5).2.1 (TX4 5).2.2.1 ∈ TT := tt_t 422 (by decide +kernel) rfl
theorem lk_4_26 : Cond.fieldLink RX4 26 (TX4 6).1 (TX4 6).2.1 (TX4 6).2.2.1 ∈ TT := tt_t 423 (by decide +kernel) rfl
theorem lk_4_29 : Cond.fieldLink RX4 29 (TX4 7).1 (TX4 7).2.1 (TX4 7).2.2.1 ∈ TT := tt_t 424 (by decide +kernel) rfl
theorem lk_4_32 : Cond.fieldLink RX4 32 (TX4 8).1 (TX4 8).2.1 (TX4 8).2.2.1 ∈ TT := tt_t 425 (by decide +kernel) rfl
theorem lk_4_35 : Cond.fieldLink RX4 35 (TX4 9).1 (TX4 9).2.1 (TX4 9).2.2.1 ∈ TT := tt_t 426 (by decide +kernel) rfl
theorem lk_4_38 : Cond.fieldLink RX4 38 (TX4 10).1 (TX4 10).2.1 (TX4 10).2.2.1 ∈ TT := tt_t 427 (by decide +kernel) rfl
theorem lk_4_41 : Cond.fieldLink RX4 41 (TX4 11).1 (TX4 11).2.1 (TX4 11).2.2.1 ∈ TT := tt_t 428 (by decide +kernel) rfl
theorem lk_4_44 : Cond.fieldLink RX4 44 (TX4 12).1 (TX4 12).2.1 (TX4 12).2.2.1 ∈ TT := tt_t 429 (by decide +kernel) rfl
theorem lk_4_47 : Cond.fieldLink RX4 47 (TX4 13).1 (TX4 13).2.1 (TX4 13).2.2.1 ∈ TT := tt_t 430 (by decide +kernel) rfl
theorem lk_4_50 : Cond.fieldLink RX4 50 (TX4 14).1 (TX4 14).2.1 (TX4 14).2.2.1 ∈ TT := tt_t 431 (by decide +kernel) rfl
theorem lk_4_53 : Cond.fieldLink RX4 53 (TX4 15).1 (TX4 15).2.1 (TX4 15).2.2.1 ∈ TT := tt_t 432 (by decide +kernel) rfl
theorem lk_4_56 : Cond.fieldLink RX4 56 (TX4 16).1 (TX4 16).2.1 (TX4 16).2.2.1 ∈ TT := tt_t 433 (by decide +kernel) rfl
theorem lk_4_59 : Cond.fieldLink RX4 59 (TX4 17).1 (TX4 17).2.1 (TX4 17).2.2.1 ∈ TT := tt_t 434 (by decide +kernel) rfl
theorem lk_4_62 : Cond.fieldLink RX4 62 (TX4 18).1 (TX4 18).2.1 (TX4 18).2.2.1 ∈ TT := tt_t 435 (by decide +kernel) rfl
theorem lk_4_65 : Cond.fieldLink RX4 65 (TX4 24).1 (TX4 24).2.1 (TX4 24).2.2.1 ∈ TT := tt_t 441 (by decide +kernel) rfl
theorem lk_4_68 : Cond.fieldLink RX4 68 (TX4 25).1 (TX4 25).2.1 (TX4 25).2.2.1 ∈ TT := tt_t 442 (by decide +kernel) rfl
theorem lk_4_71 : Cond.fieldLink RX4 71 (TX4 0).1 (TX4 0).2.1 (TX4 0).2.2.1 ∈ TT := tt_t 417 (by decide +kernel) rfl
theorem lk_4_113 : Cond.fieldLink RX4 113 (TX4 20).1 (TX4 20).2.1 (TX4 20).2.2.1 ∈ TT := tt_t 437 (by decide +kernel) rfl
theorem lk_4_119 : Cond.fieldLink RX4 119 (TX4 21).1 (TX4 21).2.1 (TX4 21).2.2.1 ∈ TT := tt_t 438 (by decide +kernel) rfl
theorem lk_4_126 : Cond.fieldLink RX4 126 (TX4 22).1 (TX4 22).2.1 (TX4 22).2.2.1 ∈ TT := tt_t 439 (by decide +kernel) rfl
theorem lk_4_154 : Cond.fieldLink RX4 154 (TX4 26).1 (TX4 26).2.1 (TX4 26).2.2.1 ∈ TT := tt_t 443 (by decide +kernel) rfl
theorem lk_4_157 : Cond.fieldLink RX4 157 (TX4 23).1 (TX4 23).2.1 (TX4 23).2.2.1 ∈ TT := tt_t 440 (by decide +kernel) rfl
theorem lk_4_164 : Cond.fieldLink RX4 164 (TX4 19).1 (TX4 19).2.1 (TX4 19).2.2.1 ∈ TT := tt_t 436 (by decide +kernel) rfl
set_option maxRecDepth 100000 in
theorem cm_m_has : Cond.code yX4_has cX4_has 3 (some .boolean) ∈ TT := tt_t 531 rfl rfl
theorem dd_m_has : yX4_has.cls = RX4 ∧ yX4_has.cls ≠ "java/lang/invoke/MethodHandle" ∧ yX4_has.cls ≠ "java/lang/invoke/VarHandle" ∧ (parseMethodDescriptor yX4_has.desc).map (fun d => d.parameters.length) = some 2 := by decide +kernel
theorem gv_4_75 : GoodIn TT (wsV RX4 75 RX4 yX4_has (Cond.code yX4_has cX4_has 3 (some .boolean) :: TT)) := jk_GV TT_good (jk_4 (tt_t 528 (by decide +kernel) rfl) (tt_t 530 (by decide +kernel) rfl) (tt_s 24 (by decide +kernel) rfl) (tt_t 5 (by decide +kernel) rfl)) cm_m_has
set_option maxRecDepth 100000 in
theorem cm_m_isGreen : Cond.code yX4_isGreen cX4_isGreen 2 (some .boolean) ∈ TT := tt_t 527 rfl rfl
theorem dd_m_isGreen : yX4_isGreen.cls = RX4 ∧ yX4_isGreen.cls ≠ "java/lang/invoke/MethodHandle" ∧ yX4_isGreen.cls ≠ "java/lang/invoke/VarHandle" ∧ (parseMethodDescriptor yX4_isGreen.desc).map (fun d => d.parameters.length) = some 1 := by decide +kernel
theorem gv_4_79 : GoodIn TT (wsV RX4 79 RX4 yX4_isGreen (Cond.code yX4_isGreen cX4_isGreen 2 (some .boolean) :: TT)) := jk_GV TT_good (jk_4 (tt_t 524 (by decide +kernel) rfl) (tt_t 526 (by decide +kernel) rfl) (tt_s 23 (by decide +kernel) rfl) (tt_t 5 (by decide +kernel) rfl)) cm_m_isGreen
set_option maxRecDepth 100000 in
theorem cm_m_isMovement : Cond.code yX4_isMovement cX4_isMovement 1 (some .boolean) ∈ TT := tt_t 505 rfl rfl
theorem dd_m_isMovement : yX4_isMovement.cls ≠ "java/lang/invoke/MethodHandle" ∧ yX4_isMovement.cls ≠ "java/lang/invoke/VarHandle" ∧ (parseMethodDescriptor yX4_isMovement.desc).map (fun d => d.parameters.length) = some 1 := by decide +kernel
theorem gv_4_83 : GoodIn TT (va_wsS RX4 83 yX4_isMovement (Cond.code yX4_isMovement cX4_isMovement 1 (some .boolean) :: TT)) := jk_GS TT_good (jk_3 (tt_t 503 (by decide +kernel) rfl) (tt_t 504 (by decide +kernel) rfl) (tt_t 5 (by decide +kernel) rfl)) cm_m_isMovement
set_option maxRecDepth 100000 in
theorem cm_m_fits : Cond.code yX4_fits cX4_fits 2 (some .boolean) ∈ TT := tt_t 508 rfl rfl
theorem dd_m_fits : yX4_fits.cls ≠ "java/lang/invoke/MethodHandle" ∧ yX4_fits.cls ≠ "java/lang/invoke/VarHandle" ∧ (parseMethodDescriptor yX4_fits.desc).map (fun d => d.parameters.length) = some 2 := by decide +kernel
theorem gv_4_86 : GoodIn TT (va_wsS RX4 86 yX4_fits (Cond.code yX4_fits cX4_fits 2 (some .boolean) :: TT)) := jk_GS TT_good (jk_3 (tt_t 506 (by decide +kernel) rfl) (tt_t 507 (by decide +kernel) rfl) (tt_t 5 (by decide +kernel) rfl)) cm_m_fits
set_option maxRecDepth 100000 in
theorem cm_m_isOf : Cond.code yX4_isOf cX4_isOf 3 (some .boolean) ∈ TT := tt_t 519 rfl rfl
theorem dd_m_isOf : yX4_isOf.cls ≠ "java/lang/invoke/MethodHandle" ∧ yX4_isOf.cls ≠ "java/lang/invoke/VarHandle" ∧ (parseMethodDescriptor yX4_isOf.desc).map (fun d => d.parameters.length) = some 3 := by decide +kernel
theorem gv_4_89 : GoodIn TT (va_wsS RX4 89 yX4_isOf (Cond.code yX4_isOf cX4_isOf 3 (some .boolean) :: TT)) := jk_GS TT_good (jk_3 (tt_t 517 (by decide +kernel) rfl) (tt_t 518 (by decide +kernel) rfl) (tt_t 5 (by decide +kernel) rfl)) cm_m_isOf
set_option maxRecDepth 100000 in
theorem cm_m_first : Cond.code yX4_first cX4_first 3 (some .int) ∈ TT := tt_t 583 rfl rfl
theorem dd_m_first : yX4_first.cls = RX4 ∧ yX4_first.cls ≠ "java/lang/invoke/MethodHandle" ∧ yX4_first.cls ≠ "java/lang/invoke/VarHandle" ∧ (parseMethodDescriptor yX4_first.desc).map (fun d => d.parameters.length) = some 2 := by decide +kernel
theorem gv_4_93 : GoodIn TT (wsV RX4 93 RX4 yX4_first (Cond.code yX4_first cX4_first 3 (some .int) :: TT)) := jk_GV TT_good (jk_4 (tt_t 580 (by decide +kernel) rfl) (tt_t 582 (by decide +kernel) rfl) (tt_s 34 (by decide +kernel) rfl) (tt_t 5 (by decide +kernel) rfl)) cm_m_first
set_option maxRecDepth 100000 in
theorem cm_m_second : Cond.code yX4_second cX4_second 3 (some .int) ∈ TT := tt_t 587 rfl rfl
theorem dd_m_second : yX4_second.cls = RX4 ∧ yX4_second.cls ≠ "java/lang/invoke/MethodHandle" ∧ yX4_second.cls ≠ "java/lang/invoke/VarHandle" ∧ (parseMethodDescriptor yX4_second.desc).map (fun d => d.parameters.length) = some 2 := by decide +kernel
theorem gv_4_97 : GoodIn TT (wsV RX4 97 RX4 yX4_second (Cond.code yX4_second cX4_second 3 (some .int) :: TT)) := jk_GV TT_good (jk_4 (tt_t 584 (by decide +kernel) rfl) (tt_t 586 (by decide +kernel) rfl) (tt_s 35 (by decide +kernel) rfl) (tt_t 5 (by decide +kernel) rfl)) cm_m_second
set_option maxRecDepth 100000 in
theorem cm_m_isCalled : Cond.code yX4_isCalled cX4_isCalled 2 (some .boolean) ∈ TT := tt_t 559 rfl rfl
theorem dd_m_isCalled : yX4_isCalled.cls = RX4 ∧ yX4_isCalled.cls ≠ "java/lang/invoke/MethodHandle" ∧ yX4_isCalled.cls ≠ "java/lang/invoke/VarHandle" ∧ (parseMethodDescriptor yX4_isCalled.desc).map (fun d => d.parameters.length) = some 1 := by decide +kernel
theorem gv_4_100 : GoodIn TT (wsV RX4 100 RX4 yX4_isCalled (Cond.code yX4_isCalled cX4_isCalled 2 (some .boolean) :: TT)) := jk_GV TT_good (jk_4 (tt_t 556 (by decide +kernel) rfl) (tt_t 558 (by decide +kernel) rfl) (tt_s 28 (by decide +kernel) rfl) (tt_t 5 (by decide +kernel) rfl)) cm_m_isCalled
set_option maxRecDepth 100000 in
theorem cm_m_timeOf : Cond.code yX4_timeOf cX4_timeOf 3 (some .int) ∈ TT := tt_t 567 rfl rfl
theorem dd_m_timeOf : yX4_timeOf.cls = RX4 ∧ yX4_timeOf.cls ≠ "java/lang/invoke/MethodHandle" ∧ yX4_timeOf.cls ≠ "java/lang/invoke/VarHandle" ∧ (parseMethodDescriptor yX4_timeOf.desc).map (fun d => d.parameters.length) = some 2 := by decide +kernel
theorem gv_4_103 : GoodIn TT (wsV RX4 103 RX4 yX4_timeOf (Cond.code yX4_timeOf cX4_timeOf 3 (some .int) :: TT)) := jk_GV TT_good (jk_4 (tt_t 564 (by decide +kernel) rfl) (tt_t 566 (by decide +kernel) rfl) (tt_s 30 (by decide +kernel) rfl) (tt_t 5 (by decide +kernel) rfl)) cm_m_timeOf
set_option maxRecDepth 100000 in
theorem cm_m_goDark : Cond.code yX4_goDark cX4_goDark 2 none ∈ TT := tt_t 571 rfl rfl
theorem dd_m_goDark : yX4_goDark.cls = RX4 ∧ yX4_goDark.cls ≠ "java/lang/invoke/MethodHandle" ∧ yX4_goDark.cls ≠ "java/lang/invoke/VarHandle" ∧ (parseMethodDescriptor yX4_goDark.desc).map (fun d => d.parameters.length) = some 1 := by decide +kernel
theorem gv_4_106 : GoodIn TT (wsV RX4 106 RX4 yX4_goDark (Cond.code yX4_goDark cX4_goDark 2 none :: TT)) := jk_GV TT_good (jk_4 (tt_t 568 (by decide +kernel) rfl) (tt_t 570 (by decide +kernel) rfl) (tt_s 31 (by decide +kernel) rfl) (tt_t 5 (by decide +kernel) rfl)) cm_m_goDark
set_option maxRecDepth 100000 in
theorem cm_m_mayEnd : Cond.code yX4_mayEnd cX4_mayEnd 3 (some .boolean) ∈ TT := tt_t 579 rfl rfl
theorem dd_m_mayEnd : yX4_mayEnd.cls = RX4 ∧ yX4_mayEnd.cls ≠ "java/lang/invoke/MethodHandle" ∧ yX4_mayEnd.cls ≠ "java/lang/invoke/VarHandle" ∧ (parseMethodDescriptor yX4_mayEnd.desc).map (fun d => d.parameters.length) = some 1 := by decide +kernel
theorem gv_4_110 : GoodIn TT (wsV RX4 110 RX4 yX4_mayEnd (Cond.code yX4_mayEnd cX4_mayEnd 3 (some .boolean) :: TT)) := jk_GV TT_good (jk_4 (tt_t 576 (by decide +kernel) rfl) (tt_t 578 (by decide +kernel) rfl) (tt_s 33 (by decide +kernel) rfl) (tt_t 5 (by decide +kernel) rfl)) cm_m_mayEnd
set_option maxRecDepth 100000 in
theorem cm_m_goYellow : Cond.code yX4_goYellow cX4_goYellow 2 none ∈ TT := tt_t 591 rfl rfl
theorem dd_m_goYellow : yX4_goYellow.cls = RX4 ∧ yX4_goYellow.cls ≠ "java/lang/invoke/MethodHandle" ∧ yX4_goYellow.cls ≠ "java/lang/invoke/VarHandle" ∧ (parseMethodDescriptor yX4_goYellow.desc).map (fun d => d.parameters.length) = some 1 := by decide +kernel
theorem gv_4_116 : GoodIn TT (wsV RX4 116 RX4 yX4_goYellow (Cond.code yX4_goYellow cX4_goYellow 2 none :: TT)) := jk_GV TT_good (jk_4 (tt_t 588 (by decide +kernel) rfl) (tt_t 590 (by decide +kernel) rfl) (tt_s 36 (by decide +kernel) rfl) (tt_t 5 (by decide +kernel) rfl)) cm_m_goYellow
set_option maxRecDepth 100000 in
theorem cm_m_calledOf : Cond.code yX4_calledOf cX4_calledOf 5 (some .int) ∈ TT := tt_t 595 rfl rfl
theorem dd_m_calledOf : yX4_calledOf.cls = RX4 ∧ yX4_calledOf.cls ≠ "java/lang/invoke/MethodHandle" ∧ yX4_calledOf.cls ≠ "java/lang/invoke/VarHandle" ∧ (parseMethodDescriptor yX4_calledOf.desc).map (fun d => d.parameters.length) = some 2 := by decide +kernel
theorem gv_4_123 : GoodIn TT (wsV RX4 123 RX4 yX4_calledOf (Cond.code yX4_calledOf cX4_calledOf 5 (some .int) :: TT)) := jk_GV TT_good (jk_4 (tt_t 592 (by decide +kernel) rfl) (tt_t 594 (by decide +kernel) rfl) (tt_s 37 (by decide +kernel) rfl) (tt_t 5 (by decide +kernel) rfl)) cm_m_calledOf
set_option maxRecDepth 100000 in
theorem cm_m_wait0 : Cond.code yX4_wait0 cX4_wait0 2 none ∈ TT := tt_t 555 rfl rfl
theorem dd_m_wait0 : yX4_wait0.cls = RX4 ∧ yX4_wait0.cls ≠ "java/lang/invoke/MethodHandle" ∧ yX4_wait0.cls ≠ "java/lang/invoke/VarHandle" ∧ (parseMethodDescriptor yX4_wait0.desc).map (fun d => d.parameters.length) = some 0 := by decide +kernel
theorem gv_4_129 : GoodIn TT (wsV RX4 129 RX4 yX4_wait0 (Cond.code yX4_wait0 cX4_wait0 2 none :: TT)) := jk_GV TT_good (jk_4 (tt_t 552 (by decide +kernel) rfl) (tt_t 554 (by decide +kernel) rfl) (tt_s 27 (by decide +kernel) rfl) (tt_t 5 (by decide +kernel) rfl)) cm_m_wait0
set_option maxRecDepth 100000 in
theorem cm_m_ageRing : Cond.code yX4_ageRing cX4_ageRing 5 none ∈ TT := tt_t 563 rfl rfl
theorem dd_m_ageRing : yX4_ageRing.cls = RX4 ∧ yX4_ageRing.cls ≠ "java/lang/invoke/MethodHandle" ∧ yX4_ageRing.cls ≠ "java/lang/invoke/VarHandle" ∧ (parseMethodDescriptor yX4_ageRing.desc).map (fun d => d.parameters.length) = some 1 := by decide +kernel
theorem gv_4_132 : GoodIn TT (wsV RX4 132 RX4 yX4_ageRing (Cond.code yX4_ageRing cX4_ageRing 5 none :: TT)) := jk_GV TT_good (jk_4 (tt_t 560 (by decide +kernel) rfl) (tt_t 562 (by decide +kernel) rfl) (tt_s 29 (by decide +kernel) rfl) (tt_t 5 (by decide +kernel) rfl)) cm_m_ageRing
set_option maxRecDepth 100000 in
theorem cm_m_goOn : Cond.code yX4_goOn cX4_goOn 2 none ∈ TT := tt_t 575 rfl rfl
theorem dd_m_goOn : yX4_goOn.cls = RX4 ∧ yX4_goOn.cls ≠ "java/lang/invoke/MethodHandle" ∧ yX4_goOn.cls ≠ "java/lang/invoke/VarHandle" ∧ (parseMethodDescriptor yX4_goOn.desc).map (fun d => d.parameters.length) = some 1 := by decide +kernel
theorem gv_4_135 : GoodIn TT (wsV RX4 135 RX4 yX4_goOn (Cond.code yX4_goOn cX4_goOn 2 none :: TT)) := jk_GV TT_good (jk_4 (tt_t 572 (by decide +kernel) rfl) (tt_t 574 (by decide +kernel) rfl) (tt_s 32 (by decide +kernel) rfl) (tt_t 5 (by decide +kernel) rfl)) cm_m_goOn
set_option maxRecDepth 100000 in
theorem cm_m_cross : Cond.code yX4_cross cX4_cross 4 none ∈ TT := tt_t 599 rfl rfl
theorem dd_m_cross : yX4_cross.cls = RX4 ∧ yX4_cross.cls ≠ "java/lang/invoke/MethodHandle" ∧ yX4_cross.cls ≠ "java/lang/invoke/VarHandle" ∧ (parseMethodDescriptor yX4_cross.desc).map (fun d => d.parameters.length) = some 0 := by decide +kernel
theorem gv_4_138 : GoodIn TT (wsV RX4 138 RX4 yX4_cross (Cond.code yX4_cross cX4_cross 4 none :: TT)) := jk_GV TT_good (jk_4 (tt_t 596 (by decide +kernel) rfl) (tt_t 598 (by decide +kernel) rfl) (tt_s 38 (by decide +kernel) rfl) (tt_t 5 (by decide +kernel) rfl)) cm_m_cross
set_option maxRecDepth 100000 in
theorem cm_m_comesAlong : Cond.code yX4_comesAlong cX4_comesAlong 2 (some .boolean) ∈ TT := tt_t 603 rfl rfl
theorem dd_m_comesAlong : yX4_comesAlong.cls = RX4 ∧ yX4_comesAlong.cls ≠ "java/lang/invoke/MethodHandle" ∧ yX4_comesAlong.cls ≠ "java/lang/invoke/VarHandle" ∧ (parseMethodDescriptor yX4_comesAlong.desc).map (fun d => d.parameters.length) = some 1 := by decide +kernel
theorem gv_4_141 : GoodIn TT (wsV RX4 141 RX4 yX4_comesAlong (Cond.code yX4_comesAlong cX4_comesAlong 2 (some .boolean) :: TT)) := jk_GV TT_good (jk_4 (tt_t 600 (by decide +kernel) rfl) (tt_t 602 (by decide +kernel) rfl) (tt_s 39 (by decide +kernel) rfl) (tt_t 5 (by decide +kernel) rfl)) cm_m_comesAlong
set_option maxRecDepth 100000 in
theorem cm_m_begin : Cond.code yX4_begin cX4_begin 4 none ∈ TT := tt_t 607 rfl rfl
theorem dd_m_begin : yX4_begin.cls = RX4 ∧ yX4_begin.cls ≠ "java/lang/invoke/MethodHandle" ∧ yX4_begin.cls ≠ "java/lang/invoke/VarHandle" ∧ (parseMethodDescriptor yX4_begin.desc).map (fun d => d.parameters.length) = some 1 := by decide +kernel
theorem gv_4_144 : GoodIn TT (wsV RX4 144 RX4 yX4_begin (Cond.code yX4_begin cX4_begin 4 none :: TT)) := jk_GV TT_good (jk_4 (tt_t 604 (by decide +kernel) rfl) (tt_t 606 (by decide +kernel) rfl) (tt_s 40 (by decide +kernel) rfl) (tt_t 5 (by decide +kernel) rfl)) cm_m_begin
set_option maxRecDepth 100000 in
theorem cm_m_lightOf : Cond.code yX4_lightOf cX4_lightOf 3 (some .int) ∈ TT := tt_t 615 rfl rfl
theorem dd_m_lightOf : yX4_lightOf.cls = RX4 ∧ yX4_lightOf.cls ≠ "java/lang/invoke/MethodHandle" ∧ yX4_lightOf.cls ≠ "java/lang/invoke/VarHandle" ∧ (parseMethodDescriptor yX4_lightOf.desc).map (fun d => d.parameters.length) = some 1 := by decide +kernel
theorem gv_4_147 : GoodIn TT (wsV RX4 147 RX4 yX4_lightOf (Cond.code yX4_lightOf cX4_lightOf 3 (some .int) :: TT)) := jk_GV TT_good (jk_4 (tt_t 612 (by decide +kernel) rfl) (tt_t 614 (by decide +kernel) rfl) (tt_s 42 (by decide +kernel) rfl) (tt_t 5 (by decide +kernel) rfl)) cm_m_lightOf
set_option maxRecDepth 100000 in
theorem cm_m_areInWay : Cond.code yX4_areInWay cX4_areInWay 2 (some .boolean) ∈ TT := tt_t 618 rfl rfl
theorem dd_m_areInWay : yX4_areInWay.cls ≠ "java/lang/invoke/MethodHandle" ∧ yX4_areInWay.cls ≠ "java/lang/invoke/VarHandle" ∧ (parseMethodDescriptor yX4_areInWay.desc).map (fun d => d.parameters.length) = some 2 := by decide +kernel
theorem gv_4_151 : GoodIn TT (va_wsS RX4 151 yX4_areInWay (Cond.code yX4_areInWay cX4_areInWay 2 (some .boolean) :: TT)) := jk_GS TT_good (jk_3 (tt_t 616 (by decide +kernel) rfl) (tt_t 617 (by decide +kernel) rfl) (tt_t 5 (by decide +kernel) rfl)) cm_m_areInWay
set_option maxRecDepth 100000 in
theorem cm_m_allGreens : Cond.code yX4_allGreens cX4_allGreens 3 (some .int) ∈ TT := tt_t 547 rfl rfl
theorem dd_m_allGreens : yX4_allGreens.cls = RX4 ∧ yX4_allGreens.cls ≠ "java/lang/invoke/MethodHandle" ∧ yX4_allGreens.cls ≠ "java/lang/invoke/VarHandle" ∧ (parseMethodDescriptor yX4_allGreens.desc).map (fun d => d.parameters.length) = some 0 := by decide +kernel
theorem gv_4_160 : GoodIn TT (wsV RX4 160 RX4 yX4_allGreens (Cond.code yX4_allGreens cX4_allGreens 3 (some .int) :: TT)) := jk_GV TT_good (jk_4 (tt_t 544 (by decide +kernel) rfl) (tt_t 546 (by decide +kernel) rfl) (tt_s 25 (by decide +kernel) rfl) (tt_t 5 (by decide +kernel) rfl)) cm_m_allGreens
set_option maxRecDepth 100000 in
theorem cm_m_tick : Cond.code yX4_tick cX4_tick 5 none ∈ TT := tt_t 551 rfl rfl
theorem dd_m_tick : yX4_tick.cls = RX4 ∧ yX4_tick.cls ≠ "java/lang/invoke/MethodHandle" ∧ yX4_tick.cls ≠ "java/lang/invoke/VarHandle" ∧ (parseMethodDescriptor yX4_tick.desc).map (fun d => d.parameters.length) = some 0 := by decide +kernel
theorem gv_4_167 : GoodIn TT (wsV RX4 167 RX4 yX4_tick (Cond.code yX4_tick cX4_tick 5 none :: TT)) := jk_GV TT_good (jk_4 (tt_t 548 (by decide +kernel) rfl) (tt_t 550 (by decide +kernel) rfl) (tt_s 26 (by decide +kernel) rfl) (tt_t 5 (by decide +kernel) rfl)) cm_m_tick
set_option maxRecDepth 100000 in
theorem cm_m_look : Cond.code yX4_look cX4_look 7 none ∈ TT := tt_t 611 rfl rfl
theorem dd_m_look : yX4_look.cls = RX4 ∧ yX4_look.cls ≠ "java/lang/invoke/MethodHandle" ∧ yX4_look.cls ≠ "java/lang/invoke/VarHandle" ∧ (parseMethodDescriptor yX4_look.desc).map (fun d => d.parameters.length) = some 0 := by decide +kernel
theorem gv_4_170 : GoodIn TT (wsV RX4 170 RX4 yX4_look (Cond.code yX4_look cX4_look 7 none :: TT)) := jk_GV TT_good (jk_4 (tt_t 608 (by decide +kernel) rfl) (tt_t 610 (by decide +kernel) rfl) (tt_s 41 (by decide +kernel) rfl) (tt_t 5 (by decide +kernel) rfl)) cm_m_look
