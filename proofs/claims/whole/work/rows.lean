section
-- ===== PART A: goes FIRST, ahead of the names: the tables' words, and 'selects' of the private methods out of them =====
/-- a private method of a class that the tables say can be made, by its rows of tables_1 -/
def lw_okq (q : MethodName × Nat) : Prop := (q.1.cls ≠ "java/lang/invoke/MethodHandle" ∧ q.1.cls ≠ "java/lang/invoke/VarHandle") ∧ Cond.instantiable q.1.cls q.2 ∈ tables_1 ∧ Cond.privateMethod q.1 ∈ tables_1 ∧ Cond.instanceMethod q.1 ∈ tables_1
theorem lw_p0 : lw_okq (⟨"CrossingDesk", "isGreen", "(I)Z"⟩, 8) := ⟨⟨by decide +kernel, by decide +kernel⟩, List.mem_of_getElem? (i := 8) (by decide +kernel), List.mem_of_getElem? (i := 205) (by decide +kernel), List.mem_of_getElem? (i := 206) (by decide +kernel)⟩
theorem lw_p1 : lw_okq (⟨"CrossingDesk", "tick", "()I"⟩, 8) := ⟨⟨by decide +kernel, by decide +kernel⟩, List.mem_of_getElem? (i := 8) (by decide +kernel), List.mem_of_getElem? (i := 224) (by decide +kernel), List.mem_of_getElem? (i := 225) (by decide +kernel)⟩
theorem lw_p2 : lw_okq (⟨"CrossingDesk", "isFlashing", "()Z"⟩, 8) := ⟨⟨by decide +kernel, by decide +kernel⟩, List.mem_of_getElem? (i := 8) (by decide +kernel), List.mem_of_getElem? (i := 228) (by decide +kernel), List.mem_of_getElem? (i := 229) (by decide +kernel)⟩
theorem lw_p3 : lw_okq (⟨"CrossingDesk", "countWaits", "()V"⟩, 8) := ⟨⟨by decide +kernel, by decide +kernel⟩, List.mem_of_getElem? (i := 8) (by decide +kernel), List.mem_of_getElem? (i := 232) (by decide +kernel), List.mem_of_getElem? (i := 233) (by decide +kernel)⟩
theorem lw_p4 : lw_okq (⟨"CrossingDesk", "isCalled", "(I)Z"⟩, 8) := ⟨⟨by decide +kernel, by decide +kernel⟩, List.mem_of_getElem? (i := 8) (by decide +kernel), List.mem_of_getElem? (i := 236) (by decide +kernel), List.mem_of_getElem? (i := 237) (by decide +kernel)⟩
theorem lw_p5 : lw_okq (⟨"CrossingDesk", "advanceRings", "()V"⟩, 8) := ⟨⟨by decide +kernel, by decide +kernel⟩, List.mem_of_getElem? (i := 8) (by decide +kernel), List.mem_of_getElem? (i := 252) (by decide +kernel), List.mem_of_getElem? (i := 253) (by decide +kernel)⟩
theorem lw_p6 : lw_okq (⟨"CrossingDesk", "isAnyCalledOn", "(I)Z"⟩, 8) := ⟨⟨by decide +kernel, by decide +kernel⟩, List.mem_of_getElem? (i := 8) (by decide +kernel), List.mem_of_getElem? (i := 256) (by decide +kernel), List.mem_of_getElem? (i := 257) (by decide +kernel)⟩
theorem lw_p7 : lw_okq (⟨"CrossingDesk$Ring", "enter", "(I)V"⟩, 10) := ⟨⟨by decide +kernel, by decide +kernel⟩, List.mem_of_getElem? (i := 73) (by decide +kernel), List.mem_of_getElem? (i := 273) (by decide +kernel), List.mem_of_getElem? (i := 274) (by decide +kernel)⟩
theorem lw_p8 : lw_okq (⟨"CrossingDesk", "goOnWithinSide", "(LCrossingDesk$Ring;)V"⟩, 8) := ⟨⟨by decide +kernel, by decide +kernel⟩, List.mem_of_getElem? (i := 8) (by decide +kernel), List.mem_of_getElem? (i := 281) (by decide +kernel), List.mem_of_getElem? (i := 282) (by decide +kernel)⟩
theorem lw_p9 : lw_okq (⟨"CrossingDesk", "mayEnd", "(LCrossingDesk$Ring;)Z"⟩, 8) := ⟨⟨by decide +kernel, by decide +kernel⟩, List.mem_of_getElem? (i := 8) (by decide +kernel), List.mem_of_getElem? (i := 285) (by decide +kernel), List.mem_of_getElem? (i := 286) (by decide +kernel)⟩
theorem lw_p10 : lw_okq (⟨"CrossingDesk", "calledOn", "(LCrossingDesk$Ring;I)I"⟩, 8) := ⟨⟨by decide +kernel, by decide +kernel⟩, List.mem_of_getElem? (i := 8) (by decide +kernel), List.mem_of_getElem? (i := 304) (by decide +kernel), List.mem_of_getElem? (i := 305) (by decide +kernel)⟩
theorem lw_p11 : lw_okq (⟨"CrossingDesk", "leaveSideOrTurnBack", "()V"⟩, 8) := ⟨⟨by decide +kernel, by decide +kernel⟩, List.mem_of_getElem? (i := 8) (by decide +kernel), List.mem_of_getElem? (i := 308) (by decide +kernel), List.mem_of_getElem? (i := 309) (by decide +kernel)⟩
theorem lw_p12 : lw_okq (⟨"CrossingDesk", "turnBackToFirst", "(LCrossingDesk$Ring;)V"⟩, 8) := ⟨⟨by decide +kernel, by decide +kernel⟩, List.mem_of_getElem? (i := 8) (by decide +kernel), List.mem_of_getElem? (i := 312) (by decide +kernel), List.mem_of_getElem? (i := 313) (by decide +kernel)⟩
theorem lw_p13 : lw_okq (⟨"CrossingDesk", "isReady", "(LCrossingDesk$Ring;)Z"⟩, 8) := ⟨⟨by decide +kernel, by decide +kernel⟩, List.mem_of_getElem? (i := 8) (by decide +kernel), List.mem_of_getElem? (i := 316) (by decide +kernel), List.mem_of_getElem? (i := 317) (by decide +kernel)⟩
theorem lw_p14 : lw_okq (⟨"CrossingDesk", "beginCrossing", "()V"⟩, 8) := ⟨⟨by decide +kernel, by decide +kernel⟩, List.mem_of_getElem? (i := 8) (by decide +kernel), List.mem_of_getElem? (i := 320) (by decide +kernel), List.mem_of_getElem? (i := 321) (by decide +kernel)⟩
theorem lw_p15 : lw_okq (⟨"CrossingDesk", "endCrossing", "()V"⟩, 8) := ⟨⟨by decide +kernel, by decide +kernel⟩, List.mem_of_getElem? (i := 8) (by decide +kernel), List.mem_of_getElem? (i := 324) (by decide +kernel), List.mem_of_getElem? (i := 325) (by decide +kernel)⟩
def lw_privs_1 : List (MethodName × Nat) := [(⟨"CrossingDesk", "isGreen", "(I)Z"⟩, 8), (⟨"CrossingDesk", "tick", "()I"⟩, 8), (⟨"CrossingDesk", "isFlashing", "()Z"⟩, 8), (⟨"CrossingDesk", "countWaits", "()V"⟩, 8), (⟨"CrossingDesk", "isCalled", "(I)Z"⟩, 8), (⟨"CrossingDesk", "advanceRings", "()V"⟩, 8), (⟨"CrossingDesk", "isAnyCalledOn", "(I)Z"⟩, 8), (⟨"CrossingDesk$Ring", "enter", "(I)V"⟩, 10), (⟨"CrossingDesk", "goOnWithinSide", "(LCrossingDesk$Ring;)V"⟩, 8), (⟨"CrossingDesk", "mayEnd", "(LCrossingDesk$Ring;)Z"⟩, 8), (⟨"CrossingDesk", "calledOn", "(LCrossingDesk$Ring;I)I"⟩, 8), (⟨"CrossingDesk", "leaveSideOrTurnBack", "()V"⟩, 8), (⟨"CrossingDesk", "turnBackToFirst", "(LCrossingDesk$Ring;)V"⟩, 8), (⟨"CrossingDesk", "isReady", "(LCrossingDesk$Ring;)Z"⟩, 8), (⟨"CrossingDesk", "beginCrossing", "()V"⟩, 8), (⟨"CrossingDesk", "endCrossing", "()V"⟩, 8)]
theorem lw_r1 : ∀ q ∈ lw_privs_1, lw_okq q := List.forall_mem_cons.mpr ⟨lw_p0, List.forall_mem_cons.mpr ⟨lw_p1, List.forall_mem_cons.mpr ⟨lw_p2, List.forall_mem_cons.mpr ⟨lw_p3, List.forall_mem_cons.mpr ⟨lw_p4, List.forall_mem_cons.mpr ⟨lw_p5, List.forall_mem_cons.mpr ⟨lw_p6, List.forall_mem_cons.mpr ⟨lw_p7, List.forall_mem_cons.mpr ⟨lw_p8, List.forall_mem_cons.mpr ⟨lw_p9, List.forall_mem_cons.mpr ⟨lw_p10, List.forall_mem_cons.mpr ⟨lw_p11, List.forall_mem_cons.mpr ⟨lw_p12, List.forall_mem_cons.mpr ⟨lw_p13, List.forall_mem_cons.mpr ⟨lw_p14, List.forall_mem_cons.mpr ⟨lw_p15, fun _ h => absurd h List.not_mem_nil⟩⟩⟩⟩⟩⟩⟩⟩⟩⟩⟩⟩⟩⟩⟩⟩
theorem lw_p16 : lw_okq (⟨"CrossingDesk", "comingAlongOn", "(LCrossingDesk$Ring;I)I"⟩, 8) := ⟨⟨by decide +kernel, by decide +kernel⟩, List.mem_of_getElem? (i := 8) (by decide +kernel), List.mem_of_getElem? (i := 328) (by decide +kernel), List.mem_of_getElem? (i := 329) (by decide +kernel)⟩
theorem lw_p17 : lw_okq (⟨"CrossingDesk", "beginGreens", "()I"⟩, 8) := ⟨⟨by decide +kernel, by decide +kernel⟩, List.mem_of_getElem? (i := 8) (by decide +kernel), List.mem_of_getElem? (i := 336) (by decide +kernel), List.mem_of_getElem? (i := 337) (by decide +kernel)⟩
theorem lw_p18 : lw_okq (⟨"CrossingDesk", "showLightsToGuard", "()V"⟩, 8) := ⟨⟨by decide +kernel, by decide +kernel⟩, List.mem_of_getElem? (i := 8) (by decide +kernel), List.mem_of_getElem? (i := 352) (by decide +kernel), List.mem_of_getElem? (i := 353) (by decide +kernel)⟩
theorem lw_p19 : lw_okq (⟨"CrossingDesk", "shownLight", "(I)I"⟩, 8) := ⟨⟨by decide +kernel, by decide +kernel⟩, List.mem_of_getElem? (i := 8) (by decide +kernel), List.mem_of_getElem? (i := 356) (by decide +kernel), List.mem_of_getElem? (i := 357) (by decide +kernel)⟩
theorem lw_p20 : lw_okq (⟨"CrossingDesk", "toldLight", "(I)I"⟩, 8) := ⟨⟨by decide +kernel, by decide +kernel⟩, List.mem_of_getElem? (i := 8) (by decide +kernel), List.mem_of_getElem? (i := 360) (by decide +kernel), List.mem_of_getElem? (i := 361) (by decide +kernel)⟩
theorem lw_p21 : lw_okq (⟨"CrossingDesk$Guard", "leastFault", "([IZ)I"⟩, 4) := ⟨⟨by decide +kernel, by decide +kernel⟩, List.mem_of_getElem? (i := 118) (by decide +kernel), List.mem_of_getElem? (i := 374) (by decide +kernel), List.mem_of_getElem? (i := 375) (by decide +kernel)⟩
theorem lw_p22 : lw_okq (⟨"CrossingDesk$Guard", "hadShortYellow", "(I)Z"⟩, 4) := ⟨⟨by decide +kernel, by decide +kernel⟩, List.mem_of_getElem? (i := 118) (by decide +kernel), List.mem_of_getElem? (i := 378) (by decide +kernel), List.mem_of_getElem? (i := 379) (by decide +kernel)⟩
theorem lw_p23 : lw_okq (⟨"CrossingDeskModel", "isGreen", "(I)Z"⟩, 27) := ⟨⟨by decide +kernel, by decide +kernel⟩, List.mem_of_getElem? (i := 412) (by decide +kernel), List.mem_of_getElem? (i := 525) (by decide +kernel), List.mem_of_getElem? (i := 526) (by decide +kernel)⟩
theorem lw_p24 : lw_okq (⟨"CrossingDeskModel", "has", "(II)Z"⟩, 27) := ⟨⟨by decide +kernel, by decide +kernel⟩, List.mem_of_getElem? (i := 412) (by decide +kernel), List.mem_of_getElem? (i := 529) (by decide +kernel), List.mem_of_getElem? (i := 530) (by decide +kernel)⟩
theorem lw_p25 : lw_okq (⟨"CrossingDeskModel", "allGreens", "()I"⟩, 27) := ⟨⟨by decide +kernel, by decide +kernel⟩, List.mem_of_getElem? (i := 412) (by decide +kernel), List.mem_of_getElem? (i := 545) (by decide +kernel), List.mem_of_getElem? (i := 546) (by decide +kernel)⟩
theorem lw_p26 : lw_okq (⟨"CrossingDeskModel", "tick", "()V"⟩, 27) := ⟨⟨by decide +kernel, by decide +kernel⟩, List.mem_of_getElem? (i := 412) (by decide +kernel), List.mem_of_getElem? (i := 549) (by decide +kernel), List.mem_of_getElem? (i := 550) (by decide +kernel)⟩
theorem lw_p27 : lw_okq (⟨"CrossingDeskModel", "wait0", "()V"⟩, 27) := ⟨⟨by decide +kernel, by decide +kernel⟩, List.mem_of_getElem? (i := 412) (by decide +kernel), List.mem_of_getElem? (i := 553) (by decide +kernel), List.mem_of_getElem? (i := 554) (by decide +kernel)⟩
theorem lw_p28 : lw_okq (⟨"CrossingDeskModel", "isCalled", "(I)Z"⟩, 27) := ⟨⟨by decide +kernel, by decide +kernel⟩, List.mem_of_getElem? (i := 412) (by decide +kernel), List.mem_of_getElem? (i := 557) (by decide +kernel), List.mem_of_getElem? (i := 558) (by decide +kernel)⟩
theorem lw_p29 : lw_okq (⟨"CrossingDeskModel", "ageRing", "(I)V"⟩, 27) := ⟨⟨by decide +kernel, by decide +kernel⟩, List.mem_of_getElem? (i := 412) (by decide +kernel), List.mem_of_getElem? (i := 561) (by decide +kernel), List.mem_of_getElem? (i := 562) (by decide +kernel)⟩
theorem lw_p30 : lw_okq (⟨"CrossingDeskModel", "timeOf", "(II)I"⟩, 27) := ⟨⟨by decide +kernel, by decide +kernel⟩, List.mem_of_getElem? (i := 412) (by decide +kernel), List.mem_of_getElem? (i := 565) (by decide +kernel), List.mem_of_getElem? (i := 566) (by decide +kernel)⟩
theorem lw_p31 : lw_okq (⟨"CrossingDeskModel", "goDark", "(I)V"⟩, 27) := ⟨⟨by decide +kernel, by decide +kernel⟩, List.mem_of_getElem? (i := 412) (by decide +kernel), List.mem_of_getElem? (i := 569) (by decide +kernel), List.mem_of_getElem? (i := 570) (by decide +kernel)⟩
def lw_privs_2 : List (MethodName × Nat) := [(⟨"CrossingDesk", "comingAlongOn", "(LCrossingDesk$Ring;I)I"⟩, 8), (⟨"CrossingDesk", "beginGreens", "()I"⟩, 8), (⟨"CrossingDesk", "showLightsToGuard", "()V"⟩, 8), (⟨"CrossingDesk", "shownLight", "(I)I"⟩, 8), (⟨"CrossingDesk", "toldLight", "(I)I"⟩, 8), (⟨"CrossingDesk$Guard", "leastFault", "([IZ)I"⟩, 4), (⟨"CrossingDesk$Guard", "hadShortYellow", "(I)Z"⟩, 4), (⟨"CrossingDeskModel", "isGreen", "(I)Z"⟩, 27), (⟨"CrossingDeskModel", "has", "(II)Z"⟩, 27), (⟨"CrossingDeskModel", "allGreens", "()I"⟩, 27), (⟨"CrossingDeskModel", "tick", "()V"⟩, 27), (⟨"CrossingDeskModel", "wait0", "()V"⟩, 27), (⟨"CrossingDeskModel", "isCalled", "(I)Z"⟩, 27), (⟨"CrossingDeskModel", "ageRing", "(I)V"⟩, 27), (⟨"CrossingDeskModel", "timeOf", "(II)I"⟩, 27), (⟨"CrossingDeskModel", "goDark", "(I)V"⟩, 27)]
theorem lw_r2 : ∀ q ∈ lw_privs_2, lw_okq q := List.forall_mem_cons.mpr ⟨lw_p16, List.forall_mem_cons.mpr ⟨lw_p17, List.forall_mem_cons.mpr ⟨lw_p18, List.forall_mem_cons.mpr ⟨lw_p19, List.forall_mem_cons.mpr ⟨lw_p20, List.forall_mem_cons.mpr ⟨lw_p21, List.forall_mem_cons.mpr ⟨lw_p22, List.forall_mem_cons.mpr ⟨lw_p23, List.forall_mem_cons.mpr ⟨lw_p24, List.forall_mem_cons.mpr ⟨lw_p25, List.forall_mem_cons.mpr ⟨lw_p26, List.forall_mem_cons.mpr ⟨lw_p27, List.forall_mem_cons.mpr ⟨lw_p28, List.forall_mem_cons.mpr ⟨lw_p29, List.forall_mem_cons.mpr ⟨lw_p30, List.forall_mem_cons.mpr ⟨lw_p31, fun _ h => absurd h List.not_mem_nil⟩⟩⟩⟩⟩⟩⟩⟩⟩⟩⟩⟩⟩⟩⟩⟩
theorem lw_p32 : lw_okq (⟨"CrossingDeskModel", "goOn", "(I)V"⟩, 27) := ⟨⟨by decide +kernel, by decide +kernel⟩, List.mem_of_getElem? (i := 412) (by decide +kernel), List.mem_of_getElem? (i := 573) (by decide +kernel), List.mem_of_getElem? (i := 574) (by decide +kernel)⟩
theorem lw_p33 : lw_okq (⟨"CrossingDeskModel", "mayEnd", "(I)Z"⟩, 27) := ⟨⟨by decide +kernel, by decide +kernel⟩, List.mem_of_getElem? (i := 412) (by decide +kernel), List.mem_of_getElem? (i := 577) (by decide +kernel), List.mem_of_getElem? (i := 578) (by decide +kernel)⟩
theorem lw_p34 : lw_okq (⟨"CrossingDeskModel", "first", "(II)I"⟩, 27) := ⟨⟨by decide +kernel, by decide +kernel⟩, List.mem_of_getElem? (i := 412) (by decide +kernel), List.mem_of_getElem? (i := 581) (by decide +kernel), List.mem_of_getElem? (i := 582) (by decide +kernel)⟩
theorem lw_p35 : lw_okq (⟨"CrossingDeskModel", "second", "(II)I"⟩, 27) := ⟨⟨by decide +kernel, by decide +kernel⟩, List.mem_of_getElem? (i := 412) (by decide +kernel), List.mem_of_getElem? (i := 585) (by decide +kernel), List.mem_of_getElem? (i := 586) (by decide +kernel)⟩
theorem lw_p36 : lw_okq (⟨"CrossingDeskModel", "goYellow", "(I)V"⟩, 27) := ⟨⟨by decide +kernel, by decide +kernel⟩, List.mem_of_getElem? (i := 412) (by decide +kernel), List.mem_of_getElem? (i := 589) (by decide +kernel), List.mem_of_getElem? (i := 590) (by decide +kernel)⟩
theorem lw_p37 : lw_okq (⟨"CrossingDeskModel", "calledOf", "(II)I"⟩, 27) := ⟨⟨by decide +kernel, by decide +kernel⟩, List.mem_of_getElem? (i := 412) (by decide +kernel), List.mem_of_getElem? (i := 593) (by decide +kernel), List.mem_of_getElem? (i := 594) (by decide +kernel)⟩
theorem lw_p38 : lw_okq (⟨"CrossingDeskModel", "cross", "()V"⟩, 27) := ⟨⟨by decide +kernel, by decide +kernel⟩, List.mem_of_getElem? (i := 412) (by decide +kernel), List.mem_of_getElem? (i := 597) (by decide +kernel), List.mem_of_getElem? (i := 598) (by decide +kernel)⟩
theorem lw_p39 : lw_okq (⟨"CrossingDeskModel", "comesAlong", "(I)Z"⟩, 27) := ⟨⟨by decide +kernel, by decide +kernel⟩, List.mem_of_getElem? (i := 412) (by decide +kernel), List.mem_of_getElem? (i := 601) (by decide +kernel), List.mem_of_getElem? (i := 602) (by decide +kernel)⟩
theorem lw_p40 : lw_okq (⟨"CrossingDeskModel", "begin", "(I)V"⟩, 27) := ⟨⟨by decide +kernel, by decide +kernel⟩, List.mem_of_getElem? (i := 412) (by decide +kernel), List.mem_of_getElem? (i := 605) (by decide +kernel), List.mem_of_getElem? (i := 606) (by decide +kernel)⟩
theorem lw_p41 : lw_okq (⟨"CrossingDeskModel", "look", "()V"⟩, 27) := ⟨⟨by decide +kernel, by decide +kernel⟩, List.mem_of_getElem? (i := 412) (by decide +kernel), List.mem_of_getElem? (i := 609) (by decide +kernel), List.mem_of_getElem? (i := 610) (by decide +kernel)⟩
theorem lw_p42 : lw_okq (⟨"CrossingDeskModel", "lightOf", "(I)I"⟩, 27) := ⟨⟨by decide +kernel, by decide +kernel⟩, List.mem_of_getElem? (i := 412) (by decide +kernel), List.mem_of_getElem? (i := 613) (by decide +kernel), List.mem_of_getElem? (i := 614) (by decide +kernel)⟩
def lw_privs_3 : List (MethodName × Nat) := [(⟨"CrossingDeskModel", "goOn", "(I)V"⟩, 27), (⟨"CrossingDeskModel", "mayEnd", "(I)Z"⟩, 27), (⟨"CrossingDeskModel", "first", "(II)I"⟩, 27), (⟨"CrossingDeskModel", "second", "(II)I"⟩, 27), (⟨"CrossingDeskModel", "goYellow", "(I)V"⟩, 27), (⟨"CrossingDeskModel", "calledOf", "(II)I"⟩, 27), (⟨"CrossingDeskModel", "cross", "()V"⟩, 27), (⟨"CrossingDeskModel", "comesAlong", "(I)Z"⟩, 27), (⟨"CrossingDeskModel", "begin", "(I)V"⟩, 27), (⟨"CrossingDeskModel", "look", "()V"⟩, 27), (⟨"CrossingDeskModel", "lightOf", "(I)I"⟩, 27)]
theorem lw_r3 : ∀ q ∈ lw_privs_3, lw_okq q := List.forall_mem_cons.mpr ⟨lw_p32, List.forall_mem_cons.mpr ⟨lw_p33, List.forall_mem_cons.mpr ⟨lw_p34, List.forall_mem_cons.mpr ⟨lw_p35, List.forall_mem_cons.mpr ⟨lw_p36, List.forall_mem_cons.mpr ⟨lw_p37, List.forall_mem_cons.mpr ⟨lw_p38, List.forall_mem_cons.mpr ⟨lw_p39, List.forall_mem_cons.mpr ⟨lw_p40, List.forall_mem_cons.mpr ⟨lw_p41, List.forall_mem_cons.mpr ⟨lw_p42, fun _ h => absurd h List.not_mem_nil⟩⟩⟩⟩⟩⟩⟩⟩⟩⟩⟩
def lw_privs : List (MethodName × Nat) := lw_privs_1 ++ (lw_privs_2 ++ (lw_privs_3))
def lw_tbl : List Cond := k2_sels lw_privs ++ tables_1
theorem lw_privs_ok : ∀ q ∈ lw_privs, lw_okq q := by
  show ∀ q ∈ lw_privs_1 ++ (lw_privs_2 ++ (lw_privs_3)), lw_okq q
  exact List.forall_mem_append.mpr ⟨lw_r1, List.forall_mem_append.mpr ⟨lw_r2, lw_r3⟩⟩
end
section
def RX0 : String := "CrossingDesk$Guard"
def TX0 : u_T := fun k => match k with
  | 0 => ("CrossingDesk$Guard", "lastSeen", "[I", true)
  | 1 => ("CrossingDesk$Guard", "yellowLooks", "[I", true)
  | 2 => ("CrossingDesk$Guard", "wayWasBlocked", "Z", false)
  | _ => ("CrossingDesk$Guard", "fault", "I", false)
def tyX0 : Nat → FieldType := fun k => match k with
  | 0 => .array .int
  | 1 => .array .int
  | 2 => .boolean
  | _ => .int
theorem nmX0 : ∀ a, a < 4 → ∀ b, b < 4 → a ≠ b → (TX0 a).2.1 ≠ (TX0 b).2.1 := by decide +kernel
theorem tyX0_ok : ∀ k, k < 4 → parseFieldDescriptor (TX0 k).2.2.1 = some (tyX0 k) := by decide +kernel
abbrev cX0_init : ByteArray := prog_2_method_1_code
def yX0_init : MethodName := ⟨RX0, "<init>", "()V"⟩
abbrev cX0_forget : ByteArray := prog_2_method_2_code
def yX0_forget : MethodName := ⟨RX0, "forget", "()V"⟩
abbrev cX0_look : ByteArray := prog_2_method_3_code
def yX0_look : MethodName := ⟨RX0, "look", "([I)V"⟩
abbrev cX0_leastFault : ByteArray := prog_2_method_4_code
def yX0_leastFault : MethodName := ⟨RX0, "leastFault", "([IZ)I"⟩
abbrev cX0_hadShortYellow : ByteArray := prog_2_method_5_code
def yX0_hadShortYellow : MethodName := ⟨RX0, "hadShortYellow", "(I)Z"⟩
def RX1 : String := "CrossingDesk$Movement"
def TX1 : u_T := fun k => match k with
  | 0 => ("CrossingDesk$Movement", "times", "[I", true)
  | 1 => ("CrossingDesk$Movement", "modes", "I", false)
  | 2 => ("CrossingDesk$Movement", "car", "Z", false)
  | 3 => ("CrossingDesk$Movement", "remembered", "Z", false)
  | 4 => ("CrossingDesk$Movement", "pushed", "Z", false)
  | 5 => ("CrossingDesk$Movement", "waited", "I", false)
  | 6 => ("CrossingDesk$Movement", "longestWait", "I", false)
  | 7 => ("CrossingDesk$Movement", "greens", "I", false)
  | _ => ("CrossingDesk$Movement", "stuck", "I", false)
def tyX1 : Nat → FieldType := fun k => match k with
  | 0 => .array .int
  | 1 => .int
  | 2 => .boolean
  | 3 => .boolean
  | 4 => .boolean
  | 5 => .int
  | 6 => .int
  | 7 => .int
  | _ => .int
theorem nmX1 : ∀ a, a < 9 → ∀ b, b < 9 → a ≠ b → (TX1 a).2.1 ≠ (TX1 b).2.1 := by decide +kernel
theorem tyX1_ok : ∀ k, k < 9 → parseFieldDescriptor (TX1 k).2.2.1 = some (tyX1 k) := by decide +kernel
abbrev cX1_init : ByteArray := prog_3_method_1_code
def yX1_init : MethodName := ⟨RX1, "<init>", "()V"⟩
abbrev cX1_has : ByteArray := prog_3_method_2_code
def yX1_has : MethodName := ⟨RX1, "has", "(I)Z"⟩
abbrev cX1_isWanted : ByteArray := prog_3_method_3_code
def yX1_isWanted : MethodName := ⟨RX1, "isWanted", "()Z"⟩
abbrev cX1_comesAlong : ByteArray := prog_3_method_4_code
def yX1_comesAlong : MethodName := ⟨RX1, "comesAlong", "()Z"⟩
abbrev cX1_wouldWalk : ByteArray := prog_3_method_5_code
def yX1_wouldWalk : MethodName := ⟨RX1, "wouldWalk", "()Z"⟩
abbrev cX1_countWait : ByteArray := prog_3_method_6_code
def yX1_countWait : MethodName := ⟨RX1, "countWait", "(Z)V"⟩
abbrev cX1_beginGreen : ByteArray := prog_3_method_7_code
def yX1_beginGreen : MethodName := ⟨RX1, "beginGreen", "()V"⟩
def RX2 : String := "CrossingDesk$Ring"
def TX2 : u_T := fun k => match k with
  | 0 => ("CrossingDesk$Ring", "lowest", "I", true)
  | 1 => ("CrossingDesk$Ring", "exchanged", "[Z", true)
  | 2 => ("CrossingDesk$Ring", "movement", "I", false)
  | 3 => ("CrossingDesk$Ring", "phase", "I", false)
  | 4 => ("CrossingDesk$Ring", "age", "I", false)
  | 5 => ("CrossingDesk$Ring", "left", "I", false)
  | 6 => ("CrossingDesk$Ring", "pressure", "I", false)
  | 7 => ("CrossingDesk$Ring", "next", "I", false)
  | 8 => ("CrossingDesk$Ring", "walkLeft", "I", false)
  | _ => ("CrossingDesk$Ring", "clearingLeft", "I", false)
def tyX2 : Nat → FieldType := fun k => match k with
  | 0 => .int
  | 1 => .array .boolean
  | 2 => .int
  | 3 => .int
  | 4 => .int
  | 5 => .int
  | 6 => .int
  | 7 => .int
  | 8 => .int
  | _ => .int
theorem nmX2 : ∀ a, a < 10 → ∀ b, b < 10 → a ≠ b → (TX2 a).2.1 ≠ (TX2 b).2.1 := by decide +kernel
theorem tyX2_ok : ∀ k, k < 10 → parseFieldDescriptor (TX2 k).2.2.1 = some (tyX2 k) := by decide +kernel
abbrev cX2_init : ByteArray := prog_4_method_1_code
def yX2_init : MethodName := ⟨RX2, "<init>", "(I)V"⟩
abbrev cX2_first : ByteArray := prog_4_method_2_code
def yX2_first : MethodName := ⟨RX2, "first", "(I)I"⟩
abbrev cX2_second : ByteArray := prog_4_method_3_code
def yX2_second : MethodName := ⟨RX2, "second", "(I)I"⟩
abbrev cX2_isBusyWith : ByteArray := prog_4_method_4_code
def yX2_isBusyWith : MethodName := ⟨RX2, "isBusyWith", "(I)Z"⟩
abbrev cX2_walking : ByteArray := prog_4_method_5_code
def yX2_walking : MethodName := ⟨RX2, "walking", "()I"⟩
abbrev cX2_mayEndGreen : ByteArray := prog_4_method_6_code
def yX2_mayEndGreen : MethodName := ⟨RX2, "mayEndGreen", "([I)Z"⟩
abbrev cX2_beginGreen : ByteArray := prog_4_method_7_code
def yX2_beginGreen : MethodName := ⟨RX2, "beginGreen", "(LCrossingDesk$Movement;)V"⟩
abbrev cX2_advanceGreen : ByteArray := prog_4_method_8_code
def yX2_advanceGreen : MethodName := ⟨RX2, "advanceGreen", "(LCrossingDesk$Movement;Z)V"⟩
abbrev cX2_endGreen : ByteArray := prog_4_method_9_code
def yX2_endGreen : MethodName := ⟨RX2, "endGreen", "(I)V"⟩
abbrev cX2_advanceEnding : ByteArray := prog_4_method_10_code
def yX2_advanceEnding : MethodName := ⟨RX2, "advanceEnding", "(LCrossingDesk$Movement;)V"⟩
abbrev cX2_goDark : ByteArray := prog_4_method_11_code
def yX2_goDark : MethodName := ⟨RX2, "goDark", "()V"⟩
abbrev cX2_enter : ByteArray := prog_4_method_12_code
def yX2_enter : MethodName := ⟨RX2, "enter", "(I)V"⟩
def RX3 : String := "CrossingDesk"
def TX3 : u_T := fun k => match k with
  | 0 => ("CrossingDesk", "movements", "[LCrossingDesk$Movement;", true)
  | 1 => ("CrossingDesk", "rings", "[LCrossingDesk$Ring;", true)
  | 2 => ("CrossingDesk", "guard", "LCrossingDesk$Guard;", true)
  | 3 => ("CrossingDesk", "lights", "[I", true)
  | 4 => ("CrossingDesk", "time", "I", false)
  | 5 => ("CrossingDesk", "side", "I", false)
  | 6 => ("CrossingDesk", "crossing", "Z", false)
  | _ => ("CrossingDesk", "crossings", "I", false)
def tyX3 : Nat → FieldType := fun k => match k with
  | 0 => .array (.object "CrossingDesk$Movement")
  | 1 => .array (.object "CrossingDesk$Ring")
  | 2 => .object "CrossingDesk$Guard"
  | 3 => .array .int
  | 4 => .int
  | 5 => .int
  | 6 => .boolean
  | _ => .int
theorem nmX3 : ∀ a, a < 8 → ∀ b, b < 8 → a ≠ b → (TX3 a).2.1 ≠ (TX3 b).2.1 := by decide +kernel
theorem tyX3_ok : ∀ k, k < 8 → parseFieldDescriptor (TX3 k).2.2.1 = some (tyX3 k) := by decide +kernel
abbrev cX3_init : ByteArray := prog_1_method_1_code
def yX3_init : MethodName := ⟨RX3, "<init>", "()V"⟩
abbrev cX3_set : ByteArray := prog_1_method_2_code
def yX3_set : MethodName := ⟨RX3, "set", "(III)I"⟩
abbrev cX3_mode : ByteArray := prog_1_method_3_code
def yX3_mode : MethodName := ⟨RX3, "mode", "(II)I"⟩
abbrev cX3_exchange : ByteArray := prog_1_method_4_code
def yX3_exchange : MethodName := ⟨RX3, "exchange", "(II)I"⟩
abbrev cX3_car : ByteArray := prog_1_method_5_code
def yX3_car : MethodName := ⟨RX3, "car", "(II)I"⟩
abbrev cX3_push : ByteArray := prog_1_method_6_code
def yX3_push : MethodName := ⟨RX3, "push", "(I)I"⟩
abbrev cX3_stick : ByteArray := prog_1_method_7_code
def yX3_stick : MethodName := ⟨RX3, "stick", "(II)I"⟩
abbrev cX3_run : ByteArray := prog_1_method_8_code
def yX3_run : MethodName := ⟨RX3, "run", "(I)I"⟩
abbrev cX3_restart : ByteArray := prog_1_method_9_code
def yX3_restart : MethodName := ⟨RX3, "restart", "()I"⟩
abbrev cX3_of : ByteArray := prog_1_method_10_code
def yX3_of : MethodName := ⟨RX3, "of", "(II)I"⟩
abbrev cX3_ring : ByteArray := prog_1_method_11_code
def yX3_ring : MethodName := ⟨RX3, "ring", "(II)I"⟩
abbrev cX3_state : ByteArray := prog_1_method_12_code
def yX3_state : MethodName := ⟨RX3, "state", "(I)I"⟩
abbrev cX3_check : ByteArray := prog_1_method_13_code
def yX3_check : MethodName := ⟨RX3, "check", "()I"⟩
abbrev cX3_tick : ByteArray := prog_1_method_14_code
def yX3_tick : MethodName := ⟨RX3, "tick", "()I"⟩
abbrev cX3_countWaits : ByteArray := prog_1_method_15_code
def yX3_countWaits : MethodName := ⟨RX3, "countWaits", "()V"⟩
abbrev cX3_advanceRings : ByteArray := prog_1_method_16_code
def yX3_advanceRings : MethodName := ⟨RX3, "advanceRings", "()V"⟩
abbrev cX3_goOnWithinSide : ByteArray := prog_1_method_17_code
def yX3_goOnWithinSide : MethodName := ⟨RX3, "goOnWithinSide", "(LCrossingDesk$Ring;)V"⟩
abbrev cX3_leaveSideOrTurnBack : ByteArray := prog_1_method_18_code
def yX3_leaveSideOrTurnBack : MethodName := ⟨RX3, "leaveSideOrTurnBack", "()V"⟩
abbrev cX3_turnBackToFirst : ByteArray := prog_1_method_19_code
def yX3_turnBackToFirst : MethodName := ⟨RX3, "turnBackToFirst", "(LCrossingDesk$Ring;)V"⟩
abbrev cX3_beginCrossing : ByteArray := prog_1_method_20_code
def yX3_beginCrossing : MethodName := ⟨RX3, "beginCrossing", "()V"⟩
abbrev cX3_endCrossing : ByteArray := prog_1_method_21_code
def yX3_endCrossing : MethodName := ⟨RX3, "endCrossing", "()V"⟩
abbrev cX3_beginGreens : ByteArray := prog_1_method_22_code
def yX3_beginGreens : MethodName := ⟨RX3, "beginGreens", "()I"⟩
abbrev cX3_showLightsToGuard : ByteArray := prog_1_method_23_code
def yX3_showLightsToGuard : MethodName := ⟨RX3, "showLightsToGuard", "()V"⟩
abbrev cX3_calledOn : ByteArray := prog_1_method_24_code
def yX3_calledOn : MethodName := ⟨RX3, "calledOn", "(LCrossingDesk$Ring;I)I"⟩
abbrev cX3_comingAlongOn : ByteArray := prog_1_method_25_code
def yX3_comingAlongOn : MethodName := ⟨RX3, "comingAlongOn", "(LCrossingDesk$Ring;I)I"⟩
abbrev cX3_isAnyCalledOn : ByteArray := prog_1_method_26_code
def yX3_isAnyCalledOn : MethodName := ⟨RX3, "isAnyCalledOn", "(I)Z"⟩
abbrev cX3_isCalled : ByteArray := prog_1_method_27_code
def yX3_isCalled : MethodName := ⟨RX3, "isCalled", "(I)Z"⟩
abbrev cX3_isGreen : ByteArray := prog_1_method_28_code
def yX3_isGreen : MethodName := ⟨RX3, "isGreen", "(I)Z"⟩
abbrev cX3_mayEnd : ByteArray := prog_1_method_29_code
def yX3_mayEnd : MethodName := ⟨RX3, "mayEnd", "(LCrossingDesk$Ring;)Z"⟩
abbrev cX3_isReady : ByteArray := prog_1_method_30_code
def yX3_isReady : MethodName := ⟨RX3, "isReady", "(LCrossingDesk$Ring;)Z"⟩
abbrev cX3_isFlashing : ByteArray := prog_1_method_31_code
def yX3_isFlashing : MethodName := ⟨RX3, "isFlashing", "()Z"⟩
abbrev cX3_toldLight : ByteArray := prog_1_method_32_code
def yX3_toldLight : MethodName := ⟨RX3, "toldLight", "(I)I"⟩
abbrev cX3_shownLight : ByteArray := prog_1_method_33_code
def yX3_shownLight : MethodName := ⟨RX3, "shownLight", "(I)I"⟩
abbrev cX3_isIdle : ByteArray := prog_1_method_34_code
def yX3_isIdle : MethodName := ⟨RX3, "isIdle", "(LCrossingDesk$Ring;)Z"⟩
abbrev cX3_isMovement : ByteArray := prog_1_method_35_code
def yX3_isMovement : MethodName := ⟨RX3, "isMovement", "(I)Z"⟩
abbrev cX3_isRing : ByteArray := prog_1_method_36_code
def yX3_isRing : MethodName := ⟨RX3, "isRing", "(I)Z"⟩
abbrev cX3_number : ByteArray := prog_1_method_37_code
def yX3_number : MethodName := ⟨RX3, "number", "(Z)I"⟩
abbrev cX3_ringOf : ByteArray := prog_1_method_38_code
def yX3_ringOf : MethodName := ⟨RX3, "ringOf", "(I)I"⟩
abbrev cX3_sideOf : ByteArray := prog_1_method_39_code
def yX3_sideOf : MethodName := ⟨RX3, "sideOf", "(I)I"⟩
abbrev cX3_areInWay : ByteArray := prog_1_method_40_code
def yX3_areInWay : MethodName := ⟨RX3, "areInWay", "(II)Z"⟩
abbrev cX3_anyInTheWay : ByteArray := prog_1_method_41_code
def yX3_anyInTheWay : MethodName := ⟨RX3, "anyInTheWay", "([I)Z"⟩
def RX4 : String := "CrossingDeskModel"
def TX4 : u_T := fun k => match k with
  | 0 => ("CrossingDeskModel", "thrown", "I", false)
  | 1 => ("CrossingDeskModel", "times", "[I", true)
  | 2 => ("CrossingDeskModel", "modes", "[I", true)
  | 3 => ("CrossingDeskModel", "cars", "[Z", true)
  | 4 => ("CrossingDeskModel", "pushes", "[Z", true)
  | 5 => ("CrossingDeskModel", "remembered", "[Z", true)
  | 6 => ("CrossingDeskModel", "waited", "[I", true)
  | 7 => ("CrossingDeskModel", "longest", "[I", true)
  | 8 => ("CrossingDeskModel", "greens", "[I", true)
  | 9 => ("CrossingDeskModel", "stuck", "[I", true)
  | 10 => ("CrossingDeskModel", "exchanged", "[Z", true)
  | 11 => ("CrossingDeskModel", "now", "[I", true)
  | 12 => ("CrossingDeskModel", "next", "[I", true)
  | 13 => ("CrossingDeskModel", "phase", "[I", true)
  | 14 => ("CrossingDeskModel", "age", "[I", true)
  | 15 => ("CrossingDeskModel", "left", "[I", true)
  | 16 => ("CrossingDeskModel", "pressure", "[I", true)
  | 17 => ("CrossingDeskModel", "walking", "[I", true)
  | 18 => ("CrossingDeskModel", "clearing", "[I", true)
  | 19 => ("CrossingDeskModel", "time", "I", false)
  | 20 => ("CrossingDeskModel", "side", "I", false)
  | 21 => ("CrossingDeskModel", "crossing", "Z", false)
  | 22 => ("CrossingDeskModel", "crossings", "I", false)
  | 23 => ("CrossingDeskModel", "wrong", "I", false)
  | 24 => ("CrossingDeskModel", "seen", "[I", true)
  | 25 => ("CrossingDeskModel", "yellows", "[I", true)
  | _ => ("CrossingDeskModel", "clashed", "Z", false)
def tyX4 : Nat → FieldType := fun k => match k with
  | 0 => .int
  | 1 => .array .int
  | 2 => .array .int
  | 3 => .array .boolean
  | 4 => .array .boolean
  | 5 => .array .boolean
  | 6 => .array .int
  | 7 => .array .int
  | 8 => .array .int
  | 9 => .array .int
  | 10 => .array .boolean
  | 11 => .array .int
  | 12 => .array .int
  | 13 => .array .int
  | 14 => .array .int
  | 15 => .array .int
  | 16 => .array .int
  | 17 => .array .int
  | 18 => .array .int
  | 19 => .int
  | 20 => .int
  | 21 => .boolean
  | 22 => .int
  | 23 => .int
  | 24 => .array .int
  | 25 => .array .int
  | _ => .boolean
theorem nmX4 : ∀ a, a < 27 → ∀ b, b < 27 → a ≠ b → (TX4 a).2.1 ≠ (TX4 b).2.1 := by decide +kernel
theorem tyX4_ok : ∀ k, k < 27 → parseFieldDescriptor (TX4 k).2.2.1 = some (tyX4 k) := by decide +kernel
abbrev cX4_init : ByteArray := prog_6_method_1_code
def yX4_init : MethodName := ⟨RX4, "<init>", "()V"⟩
abbrev cX4_isMovement : ByteArray := prog_6_method_3_code
def yX4_isMovement : MethodName := ⟨RX4, "isMovement", "(I)Z"⟩
abbrev cX4_timeOf : ByteArray := prog_6_method_4_code
def yX4_timeOf : MethodName := ⟨RX4, "timeOf", "(II)I"⟩
abbrev cX4_has : ByteArray := prog_6_method_5_code
def yX4_has : MethodName := ⟨RX4, "has", "(II)Z"⟩
abbrev cX4_isGreen : ByteArray := prog_6_method_6_code
def yX4_isGreen : MethodName := ⟨RX4, "isGreen", "(I)Z"⟩
abbrev cX4_isCalled : ByteArray := prog_6_method_7_code
def yX4_isCalled : MethodName := ⟨RX4, "isCalled", "(I)Z"⟩
abbrev cX4_fits : ByteArray := prog_6_method_8_code
def yX4_fits : MethodName := ⟨RX4, "fits", "(II)Z"⟩
abbrev cX4_set : ByteArray := prog_6_method_9_code
def yX4_set : MethodName := ⟨RX4, "set", "(III)I"⟩
abbrev cX4_mode : ByteArray := prog_6_method_10_code
def yX4_mode : MethodName := ⟨RX4, "mode", "(II)I"⟩
abbrev cX4_isOf : ByteArray := prog_6_method_11_code
def yX4_isOf : MethodName := ⟨RX4, "isOf", "(III)Z"⟩
abbrev cX4_exchange : ByteArray := prog_6_method_12_code
def yX4_exchange : MethodName := ⟨RX4, "exchange", "(II)I"⟩
abbrev cX4_car : ByteArray := prog_6_method_13_code
def yX4_car : MethodName := ⟨RX4, "car", "(II)I"⟩
abbrev cX4_push : ByteArray := prog_6_method_14_code
def yX4_push : MethodName := ⟨RX4, "push", "(I)I"⟩
abbrev cX4_stick : ByteArray := prog_6_method_15_code
def yX4_stick : MethodName := ⟨RX4, "stick", "(II)I"⟩
abbrev cX4_first : ByteArray := prog_6_method_16_code
def yX4_first : MethodName := ⟨RX4, "first", "(II)I"⟩
abbrev cX4_second : ByteArray := prog_6_method_17_code
def yX4_second : MethodName := ⟨RX4, "second", "(II)I"⟩
abbrev cX4_calledOf : ByteArray := prog_6_method_18_code
def yX4_calledOf : MethodName := ⟨RX4, "calledOf", "(II)I"⟩
abbrev cX4_wait0 : ByteArray := prog_6_method_19_code
def yX4_wait0 : MethodName := ⟨RX4, "wait0", "()V"⟩
abbrev cX4_goDark : ByteArray := prog_6_method_20_code
def yX4_goDark : MethodName := ⟨RX4, "goDark", "(I)V"⟩
abbrev cX4_ageRing : ByteArray := prog_6_method_21_code
def yX4_ageRing : MethodName := ⟨RX4, "ageRing", "(I)V"⟩
abbrev cX4_mayEnd : ByteArray := prog_6_method_22_code
def yX4_mayEnd : MethodName := ⟨RX4, "mayEnd", "(I)Z"⟩
abbrev cX4_goYellow : ByteArray := prog_6_method_23_code
def yX4_goYellow : MethodName := ⟨RX4, "goYellow", "(I)V"⟩
abbrev cX4_goOn : ByteArray := prog_6_method_24_code
def yX4_goOn : MethodName := ⟨RX4, "goOn", "(I)V"⟩
abbrev cX4_cross : ByteArray := prog_6_method_25_code
def yX4_cross : MethodName := ⟨RX4, "cross", "()V"⟩
abbrev cX4_comesAlong : ByteArray := prog_6_method_26_code
def yX4_comesAlong : MethodName := ⟨RX4, "comesAlong", "(I)Z"⟩
abbrev cX4_begin : ByteArray := prog_6_method_27_code
def yX4_begin : MethodName := ⟨RX4, "begin", "(I)V"⟩
abbrev cX4_tick : ByteArray := prog_6_method_28_code
def yX4_tick : MethodName := ⟨RX4, "tick", "()V"⟩
abbrev cX4_lightOf : ByteArray := prog_6_method_29_code
def yX4_lightOf : MethodName := ⟨RX4, "lightOf", "(I)I"⟩
abbrev cX4_areInWay : ByteArray := prog_6_method_30_code
def yX4_areInWay : MethodName := ⟨RX4, "areInWay", "(II)Z"⟩
abbrev cX4_look : ByteArray := prog_6_method_31_code
def yX4_look : MethodName := ⟨RX4, "look", "()V"⟩
abbrev cX4_allGreens : ByteArray := prog_6_method_32_code
def yX4_allGreens : MethodName := ⟨RX4, "allGreens", "()I"⟩
abbrev cX4_run : ByteArray := prog_6_method_33_code
def yX4_run : MethodName := ⟨RX4, "run", "(I)I"⟩
abbrev cX4_restart : ByteArray := prog_6_method_34_code
def yX4_restart : MethodName := ⟨RX4, "restart", "()I"⟩
abbrev cX4_of : ByteArray := prog_6_method_35_code
def yX4_of : MethodName := ⟨RX4, "of", "(II)I"⟩
abbrev cX4_ring : ByteArray := prog_6_method_36_code
def yX4_ring : MethodName := ⟨RX4, "ring", "(II)I"⟩
abbrev cX4_state : ByteArray := prog_6_method_37_code
def yX4_state : MethodName := ⟨RX4, "state", "(I)I"⟩
abbrev cX4_check : ByteArray := prog_6_method_38_code
def yX4_check : MethodName := ⟨RX4, "check", "()I"⟩
def RJ9 : String := "java/lang/Math"
abbrev cJ9_max_7cf53 : ByteArray := prog_8_method_65_code
def yJ9_max_7cf53 : MethodName := ⟨RJ9, "max", "(II)I"⟩
def RL : String := "CrossingDeskLaw"
abbrev cL_law : ByteArray := code
def yL_law : MethodName := ⟨RL, "law", "([I)Z"⟩
end
section
-- J: a walk's judgement with the heap and the locals' array hidden: whatever heap holds the world of u, whatever array holds the listed locals
def jk_X {S : Type} (D : va_G) (cl : List vw_C) (wd : S → va_W) (A : Nat → Prop) (H0 : Heap) (u : S) (H : Heap) (locs : List Loc) : Prop := va_P D cl (wd u) H ∧ va_D A (wd u) ∧ va_S A H0 H locs
def JJ {S : Type} (p : Program) (l : Launch) (e : Env) (R : Room) (s : State) (m : MethodId) (args : Array Value) (below : List Frame) (meth : Method) (c : Code) (cells slots : Nat) (nL : Nat) (D : va_G) (cl : List vw_C) (wd : S → va_W) (A : Nat → Prop) (Q : State → Prop) (pc : Nat) (lv : List (Nat × Value)) (u : S) (st : List Value) : Prop :=
  ∀ (H : Heap) (locs : List Loc) (ls : Array Slot), jk_X D cl wd A s.heap u H locs → lv_has ls nL lv → W p l e R s m args below meth c H locs cells slots Q (F0 m pc ls st)
def jk_C (p : Program) (R : Room) (s : State) (m : MethodId) (args : Array Value) (c : Code) (cells slots : Nat) (cc : ByteArray) (nL : Nat) (own : String) (Ts : List Cond) (D : va_G) (cl : List vw_C) (tys : List (ClassId × FieldType)) (A : Nat → Prop) : Prop :=
  p.tables.exec = Jvm.exec ∧ c.code = cc ∧ c.maxLocals = nL ∧ s.vm.findClass own = some m.cls ∧ (∀ w ∈ Ts, w.before args s = true) ∧ va_K D cl tys s ∧ (∀ q, s.heap.size ≤ q → A q) ∧ cells ≤ R.cells ∧ slots ≤ R.slots
/-- a class's table, for reading and writing its fields -/
def jk_F (cl : List vw_C) (Ts : List Cond) (ci : Nat) (Cn : String) (T : u_T) (N : Nat) (ty0 : Nat → FieldType) : Prop :=
  cl[ci]? = some (Cn, T, N) ∧ (∀ k, k < N → parseFieldDescriptor (T k).2.2.1 = some (ty0 k)) ∧ (∀ a, a < N → ∀ b, b < N → a ≠ b → (T a).2.1 ≠ (T b).2.1) ∧ ∀ w ∈ u_ws Cn T N, w ∈ Ts
theorem jk_self {x : Int32} {n : Nat} (h : vp_in x n) (hn : n < 2 ^ 31) : x = nI x.toNatClampNeg := by
  obtain ⟨j, hj, rfl⟩ := vp_in_of h hn
  rw [nI_clamp (Nat.lt_trans hj hn)]
section JK
variable {S : Type} {p : Program} {l : Launch} {e : Env} {R : Room} {s : State} {m : MethodId} {args : Array Value} {below : List Frame} {meth : Method} {c : Code} {cells slots : Nat} {cc : ByteArray} {nL : Nat} {own : String} {Ts : List Cond} {D : va_G} {cl : List vw_C} {tys : List (ClassId × FieldType)} {wd : S → va_W} {A : Nat → Prop} {Q : State → Prop} {pc : Nat} {lv : List (Nat × Value)} {u : S} {st : List Value}
theorem j_iconst (C : jk_C p R s m args c cells slots cc nL own Ts D cl tys A) {n : Int} (v : Int32) (d : decode cc pc = .ok (.iconst n, 1)) (hv : Int32.ofInt n = v) (k : JJ p l e R s m args below meth c cells slots nL D cl wd A Q (pc + 1) lv u (.int v :: st)) : JJ p l e R s m args below meth c cells slots nL D cl wd A Q pc lv u st :=
  fun H locs ls X hl => lv_iconst C.1 C.2.1 d hv (k H locs ls X hl)
theorem j_bipush (C : jk_C p R s m args c cells slots cc nL own Ts D cl tys A) {n : Int} (v : Int32) (d : decode cc pc = .ok (.bipush n, 2)) (hv : (Int8.ofInt n).toInt32 = v) (k : JJ p l e R s m args below meth c cells slots nL D cl wd A Q (pc + 2) lv u (.int v :: st)) : JJ p l e R s m args below meth c cells slots nL D cl wd A Q pc lv u st :=
  fun H locs ls X hl => lv_bipush C.1 C.2.1 d hv (k H locs ls X hl)
theorem j_sipush (C : jk_C p R s m args c cells slots cc nL own Ts D cl tys A) {n : Int} (v : Int32) (d : decode cc pc = .ok (.sipush n, 3)) (hv : (Int16.ofInt n).toInt32 = v) (k : JJ p l e R s m args below meth c cells slots nL D cl wd A Q (pc + 3) lv u (.int v :: st)) : JJ p l e R s m args below meth c cells slots nL D cl wd A Q pc lv u st :=
  fun H locs ls X hl => lv_sipush C.1 C.2.1 d hv (k H locs ls X hl)
theorem j_iload_n (C : jk_C p R s m args c cells slots cc nL own Ts D cl tys A) {k : Fin 4} {x : Int32} (q : Nat) (d : decode cc pc = .ok (.iload_n k, 1)) (h : lv[q]? = some ((k : Nat), .int x)) (kk : JJ p l e R s m args below meth c cells slots nL D cl wd A Q (pc + 1) lv u (.int x :: st)) : JJ p l e R s m args below meth c cells slots nL D cl wd A Q pc lv u st :=
  fun H locs ls X hl => lv_iload_n C.1 C.2.1 d rfl (lv_at hl q h) (kk H locs ls X hl)
theorem j_iload (C : jk_C p R s m args c cells slots cc nL own Ts D cl tys A) {i : Nat} {x : Int32} (q : Nat) (d : decode cc pc = .ok (.iload i, 2)) (h : lv[q]? = some (i, .int x)) (kk : JJ p l e R s m args below meth c cells slots nL D cl wd A Q (pc + 2) lv u (.int x :: st)) : JJ p l e R s m args below meth c cells slots nL D cl wd A Q pc lv u st :=
  fun H locs ls X hl => lv_iload C.1 C.2.1 d (lv_at hl q h) (kk H locs ls X hl)
theorem j_aload_n (C : jk_C p R s m args c cells slots cc nL own Ts D cl tys A) {k : Fin 4} {x : Nat} (q : Nat) (d : decode cc pc = .ok (.aload_n k, 1)) (h : lv[q]? = some ((k : Nat), .ref x)) (kk : JJ p l e R s m args below meth c cells slots nL D cl wd A Q (pc + 1) lv u (.ref x :: st)) : JJ p l e R s m args below meth c cells slots nL D cl wd A Q pc lv u st :=
  fun H locs ls X hl => lv_aload_n C.1 C.2.1 d rfl (lv_at hl q h) (kk H locs ls X hl)
theorem j_aload (C : jk_C p R s m args c cells slots cc nL own Ts D cl tys A) {i : Nat} {x : Nat} (q : Nat) (d : decode cc pc = .ok (.aload i, 2)) (h : lv[q]? = some (i, .ref x)) (kk : JJ p l e R s m args below meth c cells slots nL D cl wd A Q (pc + 2) lv u (.ref x :: st)) : JJ p l e R s m args below meth c cells slots nL D cl wd A Q pc lv u st :=
  fun H locs ls X hl => lv_aload C.1 C.2.1 d (lv_at hl q h) (kk H locs ls X hl)
theorem j_istore_n (C : jk_C p R s m args c cells slots cc nL own Ts D cl tys A) {k : Fin 4} {x : Int32} {lv' : List (Nat × Value)} (d : decode cc pc = .ok (.istore_n k, 1)) (hn : (k : Nat) < nL) (hl' : ((k : Nat), Value.int x) :: lv.filter (fun q => !(q.1 == (k : Nat)) && !(q.1 + 1 == (k : Nat) && q.2.category == 2)) = lv') (kk : JJ p l e R s m args below meth c cells slots nL D cl wd A Q (pc + 1) lv' u st) : JJ p l e R s m args below meth c cells slots nL D cl wd A Q pc lv u (.int x :: st) :=
  fun H locs _ X hl => lv_istore_n C.1 C.2.1 d rfl hl hn hl' (fun ls hl => kk H locs ls X hl)
theorem j_istore (C : jk_C p R s m args c cells slots cc nL own Ts D cl tys A) {i : Nat} {x : Int32} {lv' : List (Nat × Value)} (d : decode cc pc = .ok (.istore i, 2)) (hn : i < nL) (hl' : (i, Value.int x) :: lv.filter (fun q => !(q.1 == i) && !(q.1 + 1 == i && q.2.category == 2)) = lv') (kk : JJ p l e R s m args below meth c cells slots nL D cl wd A Q (pc + 2) lv' u st) : JJ p l e R s m args below meth c cells slots nL D cl wd A Q pc lv u (.int x :: st) :=
  fun H locs _ X hl => lv_istore C.1 C.2.1 d hl hn hl' (fun ls hl => kk H locs ls X hl)
theorem j_astore_n (C : jk_C p R s m args c cells slots cc nL own Ts D cl tys A) {k : Fin 4} {x : Nat} {lv' : List (Nat × Value)} (d : decode cc pc = .ok (.astore_n k, 1)) (hn : (k : Nat) < nL) (hl' : ((k : Nat), Value.ref x) :: lv.filter (fun q => !(q.1 == (k : Nat)) && !(q.1 + 1 == (k : Nat) && q.2.category == 2)) = lv') (kk : JJ p l e R s m args below meth c cells slots nL D cl wd A Q (pc + 1) lv' u st) : JJ p l e R s m args below meth c cells slots nL D cl wd A Q pc lv u (.ref x :: st) :=
  fun H locs _ X hl => lv_astore_n C.1 C.2.1 d rfl hl hn hl' (fun ls hl => kk H locs ls X hl)
theorem j_astore (C : jk_C p R s m args c cells slots cc nL own Ts D cl tys A) {i : Nat} {x : Nat} {lv' : List (Nat × Value)} (d : decode cc pc = .ok (.astore i, 2)) (hn : i < nL) (hl' : (i, Value.ref x) :: lv.filter (fun q => !(q.1 == i) && !(q.1 + 1 == i && q.2.category == 2)) = lv') (kk : JJ p l e R s m args below meth c cells slots nL D cl wd A Q (pc + 2) lv' u st) : JJ p l e R s m args below meth c cells slots nL D cl wd A Q pc lv u (.ref x :: st) :=
  fun H locs _ X hl => lv_astore C.1 C.2.1 d hl hn hl' (fun ls hl => kk H locs ls X hl)
theorem j_iinc (C : jk_C p R s m args c cells slots cc nL own Ts D cl tys A) {i : Nat} {n : Int} {x : Int32} (q : Nat) (v : Int32) {lv' : List (Nat × Value)} (d : decode cc pc = .ok (.iinc i n, 3)) (h : lv[q]? = some (i, .int x)) (hv : x + Int32.ofInt n = v) (hn : i < nL) (hl' : (i, Value.int v) :: lv.filter (fun q => !(q.1 == i) && !(q.1 + 1 == i && q.2.category == 2)) = lv') (kk : JJ p l e R s m args below meth c cells slots nL D cl wd A Q (pc + 3) lv' u st) : JJ p l e R s m args below meth c cells slots nL D cl wd A Q pc lv u st :=
  fun H locs _ X hl => lv_iinc C.1 C.2.1 d hl h hv hn hl' (fun ls hl => kk H locs ls X hl)
theorem j_iadd (C : jk_C p R s m args c cells slots cc nL own Ts D cl tys A) {x y : Int32} (d : decode cc pc = .ok (.iadd, 1)) (kk : JJ p l e R s m args below meth c cells slots nL D cl wd A Q (pc + 1) lv u (.int (x + y) :: st)) : JJ p l e R s m args below meth c cells slots nL D cl wd A Q pc lv u (.int y :: .int x :: st) :=
  fun H locs ls X hl => lv_iadd C.1 C.2.1 d (kk H locs ls X hl)
theorem j_isub (C : jk_C p R s m args c cells slots cc nL own Ts D cl tys A) {x y : Int32} (d : decode cc pc = .ok (.isub, 1)) (kk : JJ p l e R s m args below meth c cells slots nL D cl wd A Q (pc + 1) lv u (.int (x - y) :: st)) : JJ p l e R s m args below meth c cells slots nL D cl wd A Q pc lv u (.int y :: .int x :: st) :=
  fun H locs ls X hl => lv_isub C.1 C.2.1 d (kk H locs ls X hl)
theorem j_imul (C : jk_C p R s m args c cells slots cc nL own Ts D cl tys A) {x y : Int32} (d : decode cc pc = .ok (.imul, 1)) (kk : JJ p l e R s m args below meth c cells slots nL D cl wd A Q (pc + 1) lv u (.int (x * y) :: st)) : JJ p l e R s m args below meth c cells slots nL D cl wd A Q pc lv u (.int y :: .int x :: st) :=
  fun H locs ls X hl => lv_imul C.1 C.2.1 d (kk H locs ls X hl)
theorem j_iand (C : jk_C p R s m args c cells slots cc nL own Ts D cl tys A) {x y : Int32} (d : decode cc pc = .ok (.iand, 1)) (kk : JJ p l e R s m args below meth c cells slots nL D cl wd A Q (pc + 1) lv u (.int (x &&& y) :: st)) : JJ p l e R s m args below meth c cells slots nL D cl wd A Q pc lv u (.int y :: .int x :: st) :=
  fun H locs ls X hl => lv_iand C.1 C.2.1 d (kk H locs ls X hl)
theorem j_ior (C : jk_C p R s m args c cells slots cc nL own Ts D cl tys A) {x y : Int32} (d : decode cc pc = .ok (.ior, 1)) (kk : JJ p l e R s m args below meth c cells slots nL D cl wd A Q (pc + 1) lv u (.int (x ||| y) :: st)) : JJ p l e R s m args below meth c cells slots nL D cl wd A Q pc lv u (.int y :: .int x :: st) :=
  fun H locs ls X hl => lv_ior C.1 C.2.1 d (kk H locs ls X hl)
theorem j_ixor (C : jk_C p R s m args c cells slots cc nL own Ts D cl tys A) {x y : Int32} (d : decode cc pc = .ok (.ixor, 1)) (kk : JJ p l e R s m args below meth c cells slots nL D cl wd A Q (pc + 1) lv u (.int (x ^^^ y) :: st)) : JJ p l e R s m args below meth c cells slots nL D cl wd A Q pc lv u (.int y :: .int x :: st) :=
  fun H locs ls X hl => lv_ixor C.1 C.2.1 d (kk H locs ls X hl)
theorem j_ishl (C : jk_C p R s m args c cells slots cc nL own Ts D cl tys A) {x y : Int32} (v : Int32) (d : decode cc pc = .ok (.ishl, 1)) (hv : x <<< (y &&& 31) = v) (kk : JJ p l e R s m args below meth c cells slots nL D cl wd A Q (pc + 1) lv u (.int v :: st)) : JJ p l e R s m args below meth c cells slots nL D cl wd A Q pc lv u (.int y :: .int x :: st) :=
  fun H locs ls X hl => lv_ishl C.1 C.2.1 d (by rw [hv]; exact kk H locs ls X hl)
theorem j_ishr (C : jk_C p R s m args c cells slots cc nL own Ts D cl tys A) {x y : Int32} (v : Int32) (d : decode cc pc = .ok (.ishr, 1)) (hv : x >>> (y &&& 31) = v) (kk : JJ p l e R s m args below meth c cells slots nL D cl wd A Q (pc + 1) lv u (.int v :: st)) : JJ p l e R s m args below meth c cells slots nL D cl wd A Q pc lv u (.int y :: .int x :: st) :=
  fun H locs ls X hl => lv_ishr C.1 C.2.1 d (by rw [hv]; exact kk H locs ls X hl)
theorem j_idiv (C : jk_C p R s m args c cells slots cc nL own Ts D cl tys A) {x y : Int32} (v : Int32) (d : decode cc pc = .ok (.idiv, 1)) (hne : ¬ y = 0) (hv : x / y = v) (kk : JJ p l e R s m args below meth c cells slots nL D cl wd A Q (pc + 1) lv u (.int v :: st)) : JJ p l e R s m args below meth c cells slots nL D cl wd A Q pc lv u (.int y :: .int x :: st) :=
  fun H locs ls X hl => lv_idiv C.1 C.2.1 d hne (by rw [hv]; exact kk H locs ls X hl)
theorem j_irem (C : jk_C p R s m args c cells slots cc nL own Ts D cl tys A) {x y : Int32} (v : Int32) (d : decode cc pc = .ok (.irem, 1)) (hne : ¬ y = 0) (hv : x - x / y * y = v) (kk : JJ p l e R s m args below meth c cells slots nL D cl wd A Q (pc + 1) lv u (.int v :: st)) : JJ p l e R s m args below meth c cells slots nL D cl wd A Q pc lv u (.int y :: .int x :: st) :=
  fun H locs ls X hl => lv_irem C.1 C.2.1 d hne (by rw [hv]; exact kk H locs ls X hl)
theorem j_dup (C : jk_C p R s m args c cells slots cc nL own Ts D cl tys A) {v : Value} (d : decode cc pc = .ok (.dup, 1)) (hv : v.category = 1) (kk : JJ p l e R s m args below meth c cells slots nL D cl wd A Q (pc + 1) lv u (v :: v :: st)) : JJ p l e R s m args below meth c cells slots nL D cl wd A Q pc lv u (v :: st) :=
  fun H locs ls X hl => lv_dup C.1 C.2.1 d hv (kk H locs ls X hl)
theorem j_dup2 (C : jk_C p R s m args c cells slots cc nL own Ts D cl tys A) {v w : Value} (d : decode cc pc = .ok (.dup2, 1)) (hv : v.category = 1) (hw : w.category = 1) (kk : JJ p l e R s m args below meth c cells slots nL D cl wd A Q (pc + 1) lv u (v :: w :: v :: w :: st)) : JJ p l e R s m args below meth c cells slots nL D cl wd A Q pc lv u (v :: w :: st) :=
  fun H locs ls X hl => lv_dup2_11 C.1 C.2.1 d hv hw (kk H locs ls X hl)
theorem j_pop (C : jk_C p R s m args c cells slots cc nL own Ts D cl tys A) {v : Value} (d : decode cc pc = .ok (.pop, 1)) (hv : v.category = 1) (kk : JJ p l e R s m args below meth c cells slots nL D cl wd A Q (pc + 1) lv u st) : JJ p l e R s m args below meth c cells slots nL D cl wd A Q pc lv u (v :: st) :=
  fun H locs ls X hl => lv_pop C.1 C.2.1 d hv (kk H locs ls X hl)
theorem j_goto (C : jk_C p R s m args c cells slots cc nL own Ts D cl tys A) {off : Int} (tgt : Nat) (d : decode cc pc = .ok (.goto off, 3)) (ht : (pc : Int) + off = (tgt : Int)) (kk : JJ p l e R s m args below meth c cells slots nL D cl wd A Q tgt lv u st) : JJ p l e R s m args below meth c cells slots nL D cl wd A Q pc lv u st :=
  fun H locs ls X hl => lv_goto C.1 C.2.1 d ht (kk H locs ls X hl)
theorem j_if_eq (C : jk_C p R s m args c cells slots cc nL own Ts D cl tys A) {x : Int32} {off : Int} (tgt : Nat) (d : decode cc pc = .ok (.ifCond .eq off, 3)) (ht : (pc : Int) + off = (tgt : Int)) (kt : x = 0 → JJ p l e R s m args below meth c cells slots nL D cl wd A Q tgt lv u st) (kf : ¬ x = 0 → JJ p l e R s m args below meth c cells slots nL D cl wd A Q (pc + 3) lv u st) : JJ p l e R s m args below meth c cells slots nL D cl wd A Q pc lv u (.int x :: st) :=
  fun H locs ls X hl => lv_if_eq C.1 C.2.1 d ht (fun h => kt h H locs ls X hl) (fun h => kf h H locs ls X hl)
theorem j_if_ne (C : jk_C p R s m args c cells slots cc nL own Ts D cl tys A) {x : Int32} {off : Int} (tgt : Nat) (d : decode cc pc = .ok (.ifCond .ne off, 3)) (ht : (pc : Int) + off = (tgt : Int)) (kt : ¬ x = 0 → JJ p l e R s m args below meth c cells slots nL D cl wd A Q tgt lv u st) (kf : x = 0 → JJ p l e R s m args below meth c cells slots nL D cl wd A Q (pc + 3) lv u st) : JJ p l e R s m args below meth c cells slots nL D cl wd A Q pc lv u (.int x :: st) :=
  fun H locs ls X hl => lv_if_ne C.1 C.2.1 d ht (fun h => kt h H locs ls X hl) (fun h => kf h H locs ls X hl)
theorem j_if_lt (C : jk_C p R s m args c cells slots cc nL own Ts D cl tys A) {x : Int32} {off : Int} (tgt : Nat) (d : decode cc pc = .ok (.ifCond .lt off, 3)) (ht : (pc : Int) + off = (tgt : Int)) (kt : x < 0 → JJ p l e R s m args below meth c cells slots nL D cl wd A Q tgt lv u st) (kf : ¬ x < 0 → JJ p l e R s m args below meth c cells slots nL D cl wd A Q (pc + 3) lv u st) : JJ p l e R s m args below meth c cells slots nL D cl wd A Q pc lv u (.int x :: st) :=
  fun H locs ls X hl => lv_if_lt C.1 C.2.1 d ht (fun h => kt h H locs ls X hl) (fun h => kf h H locs ls X hl)
theorem j_if_ge (C : jk_C p R s m args c cells slots cc nL own Ts D cl tys A) {x : Int32} {off : Int} (tgt : Nat) (d : decode cc pc = .ok (.ifCond .ge off, 3)) (ht : (pc : Int) + off = (tgt : Int)) (kt : 0 ≤ x → JJ p l e R s m args below meth c cells slots nL D cl wd A Q tgt lv u st) (kf : ¬ 0 ≤ x → JJ p l e R s m args below meth c cells slots nL D cl wd A Q (pc + 3) lv u st) : JJ p l e R s m args below meth c cells slots nL D cl wd A Q pc lv u (.int x :: st) :=
  fun H locs ls X hl => lv_if_ge C.1 C.2.1 d ht (fun h => kt h H locs ls X hl) (fun h => kf h H locs ls X hl)
theorem j_if_gt (C : jk_C p R s m args c cells slots cc nL own Ts D cl tys A) {x : Int32} {off : Int} (tgt : Nat) (d : decode cc pc = .ok (.ifCond .gt off, 3)) (ht : (pc : Int) + off = (tgt : Int)) (kt : 0 < x → JJ p l e R s m args below meth c cells slots nL D cl wd A Q tgt lv u st) (kf : ¬ 0 < x → JJ p l e R s m args below meth c cells slots nL D cl wd A Q (pc + 3) lv u st) : JJ p l e R s m args below meth c cells slots nL D cl wd A Q pc lv u (.int x :: st) :=
  fun H locs ls X hl => lv_if_gt C.1 C.2.1 d ht (fun h => kt h H locs ls X hl) (fun h => kf h H locs ls X hl)
theorem j_if_le (C : jk_C p R s m args c cells slots cc nL own Ts D cl tys A) {x : Int32} {off : Int} (tgt : Nat) (d : decode cc pc = .ok (.ifCond .le off, 3)) (ht : (pc : Int) + off = (tgt : Int)) (kt : x ≤ 0 → JJ p l e R s m args below meth c cells slots nL D cl wd A Q tgt lv u st) (kf : ¬ x ≤ 0 → JJ p l e R s m args below meth c cells slots nL D cl wd A Q (pc + 3) lv u st) : JJ p l e R s m args below meth c cells slots nL D cl wd A Q pc lv u (.int x :: st) :=
  fun H locs ls X hl => lv_if_le C.1 C.2.1 d ht (fun h => kt h H locs ls X hl) (fun h => kf h H locs ls X hl)
theorem j_icmp_eq (C : jk_C p R s m args c cells slots cc nL own Ts D cl tys A) {x y : Int32} {off : Int} (tgt : Nat) (d : decode cc pc = .ok (.if_icmp .eq off, 3)) (ht : (pc : Int) + off = (tgt : Int)) (kt : x = y → JJ p l e R s m args below meth c cells slots nL D cl wd A Q tgt lv u st) (kf : ¬ x = y → JJ p l e R s m args below meth c cells slots nL D cl wd A Q (pc + 3) lv u st) : JJ p l e R s m args below meth c cells slots nL D cl wd A Q pc lv u (.int y :: .int x :: st) :=
  fun H locs ls X hl => lv_icmp_eq C.1 C.2.1 d ht (fun h => kt h H locs ls X hl) (fun h => kf h H locs ls X hl)
theorem j_icmp_ne (C : jk_C p R s m args c cells slots cc nL own Ts D cl tys A) {x y : Int32} {off : Int} (tgt : Nat) (d : decode cc pc = .ok (.if_icmp .ne off, 3)) (ht : (pc : Int) + off = (tgt : Int)) (kt : ¬ x = y → JJ p l e R s m args below meth c cells slots nL D cl wd A Q tgt lv u st) (kf : x = y → JJ p l e R s m args below meth c cells slots nL D cl wd A Q (pc + 3) lv u st) : JJ p l e R s m args below meth c cells slots nL D cl wd A Q pc lv u (.int y :: .int x :: st) :=
  fun H locs ls X hl => lv_icmp_ne C.1 C.2.1 d ht (fun h => kt h H locs ls X hl) (fun h => kf h H locs ls X hl)
theorem j_icmp_lt (C : jk_C p R s m args c cells slots cc nL own Ts D cl tys A) {x y : Int32} {off : Int} (tgt : Nat) (d : decode cc pc = .ok (.if_icmp .lt off, 3)) (ht : (pc : Int) + off = (tgt : Int)) (kt : x < y → JJ p l e R s m args below meth c cells slots nL D cl wd A Q tgt lv u st) (kf : ¬ x < y → JJ p l e R s m args below meth c cells slots nL D cl wd A Q (pc + 3) lv u st) : JJ p l e R s m args below meth c cells slots nL D cl wd A Q pc lv u (.int y :: .int x :: st) :=
  fun H locs ls X hl => lv_icmp_lt C.1 C.2.1 d ht (fun h => kt h H locs ls X hl) (fun h => kf h H locs ls X hl)
theorem j_icmp_ge (C : jk_C p R s m args c cells slots cc nL own Ts D cl tys A) {x y : Int32} {off : Int} (tgt : Nat) (d : decode cc pc = .ok (.if_icmp .ge off, 3)) (ht : (pc : Int) + off = (tgt : Int)) (kt : y ≤ x → JJ p l e R s m args below meth c cells slots nL D cl wd A Q tgt lv u st) (kf : ¬ y ≤ x → JJ p l e R s m args below meth c cells slots nL D cl wd A Q (pc + 3) lv u st) : JJ p l e R s m args below meth c cells slots nL D cl wd A Q pc lv u (.int y :: .int x :: st) :=
  fun H locs ls X hl => lv_icmp_ge C.1 C.2.1 d ht (fun h => kt h H locs ls X hl) (fun h => kf h H locs ls X hl)
theorem j_icmp_gt (C : jk_C p R s m args c cells slots cc nL own Ts D cl tys A) {x y : Int32} {off : Int} (tgt : Nat) (d : decode cc pc = .ok (.if_icmp .gt off, 3)) (ht : (pc : Int) + off = (tgt : Int)) (kt : y < x → JJ p l e R s m args below meth c cells slots nL D cl wd A Q tgt lv u st) (kf : ¬ y < x → JJ p l e R s m args below meth c cells slots nL D cl wd A Q (pc + 3) lv u st) : JJ p l e R s m args below meth c cells slots nL D cl wd A Q pc lv u (.int y :: .int x :: st) :=
  fun H locs ls X hl => lv_icmp_gt C.1 C.2.1 d ht (fun h => kt h H locs ls X hl) (fun h => kf h H locs ls X hl)
theorem j_icmp_le (C : jk_C p R s m args c cells slots cc nL own Ts D cl tys A) {x y : Int32} {off : Int} (tgt : Nat) (d : decode cc pc = .ok (.if_icmp .le off, 3)) (ht : (pc : Int) + off = (tgt : Int)) (kt : x ≤ y → JJ p l e R s m args below meth c cells slots nL D cl wd A Q tgt lv u st) (kf : ¬ x ≤ y → JJ p l e R s m args below meth c cells slots nL D cl wd A Q (pc + 3) lv u st) : JJ p l e R s m args below meth c cells slots nL D cl wd A Q pc lv u (.int y :: .int x :: st) :=
  fun H locs ls X hl => lv_icmp_le C.1 C.2.1 d ht (fun h => kt h H locs ls X hl) (fun h => kf h H locs ls X hl)
/-- the same stack, or locals, or world, said otherwise -/
theorem j_st {st' : List Value} (h : st = st') (kk : JJ p l e R s m args below meth c cells slots nL D cl wd A Q pc lv u st') : JJ p l e R s m args below meth c cells slots nL D cl wd A Q pc lv u st := h ▸ kk
theorem j_u {u' : S} (h : u = u') (kk : JJ p l e R s m args below meth c cells slots nL D cl wd A Q pc lv u' st) : JJ p l e R s m args below meth c cells slots nL D cl wd A Q pc lv u st := h ▸ kk
theorem j_lv {lv' : List (Nat × Value)} (ks : List Nat) (h : lv_pick lv ks = lv') (kk : JJ p l e R s m args below meth c cells slots nL D cl wd A Q pc lv' u st) : JJ p l e R s m args below meth c cells slots nL D cl wd A Q pc lv u st :=
  fun H locs ls X hl => kk H locs ls X (lv_sub hl ks h)
theorem j_tableOut (C : jk_C p R s m args c cells slots cc nL own Ts D cl tys A) {dflt lo hi : Int} {offs : Array Int} {len : Nat} {x : Int32} (tgt : Nat) (d : decode cc pc = .ok (.tableswitch dflt lo hi offs, len)) (h : x.toInt < lo ∨ hi < x.toInt) (ht : (pc : Int) + dflt = (tgt : Int)) (kk : JJ p l e R s m args below meth c cells slots nL D cl wd A Q tgt lv u st) : JJ p l e R s m args below meth c cells slots nL D cl wd A Q pc lv u (.int x :: st) :=
  fun H locs ls X hl => lv_tableOut C.1 C.2.1 d h ht (kk H locs ls X hl)
theorem j_tableIn (C : jk_C p R s m args c cells slots cc nL own Ts D cl tys A) {dflt lo hi : Int} {offs : Array Int} {len : Nat} {x : Int32} {off : Int} (tgt : Nat) (d : decode cc pc = .ok (.tableswitch dflt lo hi offs, len)) (h1 : ¬ x.toInt < lo) (h2 : ¬ hi < x.toInt) (ho : offs[(x.toInt - lo).toNat]? = some off) (ht : (pc : Int) + off = (tgt : Int)) (kk : JJ p l e R s m args below meth c cells slots nL D cl wd A Q tgt lv u st) : JJ p l e R s m args below meth c cells slots nL D cl wd A Q pc lv u (.int x :: st) :=
  fun H locs ls X hl => lv_tableIn C.1 C.2.1 d h1 h2 ho ht (kk H locs ls X hl)
/-- fields -/
theorem j_get (C : jk_C p R s m args c cells slots cc nL own Ts D cl tys A) {ci index N : Nat} {Cn : String} {T : u_T} {ty0 : Nat → FieldType} (F : jk_F cl Ts ci Cn T N ty0) (q0 : Nat) {a : Nat} {fs : List Value} (he : (wd u)[q0]? = some (a, .inr (ci, fs))) (k : Nat) (hk : k < N) (hlink : Cond.fieldLink own index (T k).1 (T k).2.1 (T k).2.2.1 ∈ Ts) {v : Value} (hv : fs[k]? = some v) (d : decode cc pc = .ok (.getfield index, 3)) (kk : JJ p l e R s m args below meth c cells slots nL D cl wd A Q (pc + 3) lv u (v :: st)) : JJ p l e R s m args below meth c cells slots nL D cl wd A Q pc lv u (.ref a :: st) :=
  fun H locs ls X hl => va_get C.1 C.2.1 C.2.2.2.2.1 F.2.2.2 C.2.2.2.1 C.2.2.2.2.2.1 X.1 q0 he F.1 k hk (C.2.2.2.2.1 _ hlink) (fun _ h => h) hv d (kk H locs ls X hl)
theorem j_put (C : jk_C p R s m args c cells slots cc nL own Ts D cl tys A) {ci index N : Nat} {Cn : String} {T : u_T} {ty0 : Nat → FieldType} (F : jk_F cl Ts ci Cn T N ty0) (q0 : Nat) {a : Nat} {fs : List Value} (he : (wd u)[q0]? = some (a, .inr (ci, fs))) (k : Nat) (hk : k < N) (hlink : Cond.fieldLink own index (T k).1 (T k).2.1 (T k).2.2.1 ∈ Ts) (hfin : (T k).2.2.2 = false) {v : Value} (hn : narrow (ty0 k) v = v) (hfit : fits (ty0 k) v = true) (hlen : k < fs.length) {u' : S} (hu : (wd u).set q0 (a, .inr (ci, fs.set k v)) = wd u') (d : decode cc pc = .ok (.putfield index, 3)) (kk : JJ p l e R s m args below meth c cells slots nL D cl wd A Q (pc + 3) lv u' st) : JJ p l e R s m args below meth c cells slots nL D cl wd A Q pc lv u (v :: .ref a :: st) :=
  fun H locs ls X hl => va_put C.1 C.2.1 C.2.2.2.2.1 F.2.2.2 ty0 F.2.1 F.2.2.1 C.2.2.2.1 C.2.2.2.2.2.1 X.1 X.2.1 X.2.2 q0 he F.1 k hk (C.2.2.2.2.1 _ hlink) (fun _ h => h) hfin (F.2.1 k hk) hn hfit hlen d (fun H1 locs1 hP hD hS => kk H1 locs1 ls ⟨hu ▸ hP, hu ▸ hD, hS⟩ hl)
/-- arrays -/
theorem j_iald (C : jk_C p R s m args c cells slots cc nL own Ts D cl tys A) (q0 t0 : Nat) {a : Nat} {cA : ClassId} {n : Nat} {f : Nat → Int32} (ha : (wd u)[q0]? = some (a, .inl (cA, n, .inl f))) (ht : tys[t0]? = some (cA, .int)) {i : Int32} (j : Nat) (hi : i = nI j) (hj : j < n) (hb : n < 2 ^ 31) (d : decode cc pc = .ok (.iaload, 1)) (kk : JJ p l e R s m args below meth c cells slots nL D cl wd A Q (pc + 1) lv u (.int (f j) :: st)) : JJ p l e R s m args below meth c cells slots nL D cl wd A Q pc lv u (.int i :: .ref a :: st) := by
  subst hi
  intro H locs ls X hl
  refine va_iald C.1 C.2.1 C.2.2.2.2.2.1 X.1 q0 t0 ha ht (vp_in_nI hj hb) d ?_
  rw [nI_clamp (Nat.lt_trans hj hb)]
  exact kk H locs ls X hl
theorem j_zald (C : jk_C p R s m args c cells slots cc nL own Ts D cl tys A) (q0 t0 : Nat) {a : Nat} {cA : ClassId} {n : Nat} {f : Nat → Int32} (ha : (wd u)[q0]? = some (a, .inl (cA, n, .inl f))) (ht : tys[t0]? = some (cA, .boolean)) {i : Int32} (j : Nat) (hi : i = nI j) (hj : j < n) (hb : n < 2 ^ 31) (d : decode cc pc = .ok (.baload, 1)) (kk : JJ p l e R s m args below meth c cells slots nL D cl wd A Q (pc + 1) lv u (.int (f j) :: st)) : JJ p l e R s m args below meth c cells slots nL D cl wd A Q pc lv u (.int i :: .ref a :: st) := by
  subst hi
  intro H locs ls X hl
  refine va_zald C.1 C.2.1 C.2.2.2.2.2.1 X.1 q0 t0 ha ht (vp_in_nI hj hb) d ?_
  rw [nI_clamp (Nat.lt_trans hj hb)]
  exact kk H locs ls X hl
theorem j_aald (C : jk_C p R s m args c cells slots cc nL own Ts D cl tys A) (q0 t0 : Nat) {a b : Nat} {cA : ClassId} {Cn : String} {n : Nat} {f : Nat → Option Nat} (ha : (wd u)[q0]? = some (a, .inl (cA, n, .inr (.inr (.inr (.inr f)))))) (ht : tys[t0]? = some (cA, .object Cn)) {i : Int32} (j : Nat) (hi : i = nI j) (hj : j < n) (hb : n < 2 ^ 31) (hf : f j = some b) (d : decode cc pc = .ok (.aaload, 1)) (kk : JJ p l e R s m args below meth c cells slots nL D cl wd A Q (pc + 1) lv u (.ref b :: st)) : JJ p l e R s m args below meth c cells slots nL D cl wd A Q pc lv u (.int i :: .ref a :: st) := by
  subst hi
  intro H locs ls X hl
  refine va_aldq C.1 C.2.1 C.2.2.2.2.2.1 X.1 q0 t0 ha ht (vp_in_nI hj hb) d ?_
  rw [nI_clamp (Nat.lt_trans hj hb), hf]
  exact kk H locs ls X hl
theorem j_iast (C : jk_C p R s m args c cells slots cc nL own Ts D cl tys A) (q0 t0 : Nat) {a : Nat} {cA : ClassId} {n : Nat} {f : Nat → Int32} (ha : (wd u)[q0]? = some (a, .inl (cA, n, .inl f))) (ht : tys[t0]? = some (cA, .int)) {i x : Int32} (j : Nat) (hi : i = nI j) (hj : j < n) (hb : n < 2 ^ 31) {u' : S} (hu : (wd u).set q0 (a, .inl (cA, n, .inl (upd f j x))) = wd u') (d : decode cc pc = .ok (.iastore, 1)) (kk : JJ p l e R s m args below meth c cells slots nL D cl wd A Q (pc + 1) lv u' st) : JJ p l e R s m args below meth c cells slots nL D cl wd A Q pc lv u (.int x :: .int i :: .ref a :: st) := by
  subst hi
  intro H locs ls X hl
  refine va_iast C.1 C.2.1 C.2.2.2.2.2.1 X.1 X.2.1 X.2.2 q0 t0 ha ht (vp_in_nI hj hb) d (fun H1 locs1 hP hD hS => ?_)
  rw [nI_clamp (Nat.lt_trans hj hb), hu] at hP hD
  exact kk H1 locs1 ls ⟨hP, hD, hS⟩ hl
theorem j_zast (C : jk_C p R s m args c cells slots cc nL own Ts D cl tys A) (q0 t0 : Nat) {a : Nat} {cA : ClassId} {n : Nat} {f : Nat → Int32} (ha : (wd u)[q0]? = some (a, .inl (cA, n, .inl f))) (ht : tys[t0]? = some (cA, .boolean)) {i x : Int32} (j : Nat) (hi : i = nI j) (hj : j < n) (hb : n < 2 ^ 31) (hx : vp_nar .boolean x = x) {u' : S} (hu : (wd u).set q0 (a, .inl (cA, n, .inl (upd f j x))) = wd u') (d : decode cc pc = .ok (.bastore, 1)) (kk : JJ p l e R s m args below meth c cells slots nL D cl wd A Q (pc + 1) lv u' st) : JJ p l e R s m args below meth c cells slots nL D cl wd A Q pc lv u (.int x :: .int i :: .ref a :: st) := by
  subst hi
  intro H locs ls X hl
  refine va_zast C.1 C.2.1 C.2.2.2.2.2.1 X.1 X.2.1 X.2.2 q0 t0 ha ht (vp_in_nI hj hb) d (fun H1 locs1 hP hD hS => ?_)
  rw [nI_clamp (Nat.lt_trans hj hb), hx, hu] at hP hD
  exact kk H1 locs1 ls ⟨hP, hD, hS⟩ hl
theorem j_alen (C : jk_C p R s m args c cells slots cc nL own Ts D cl tys A) (q0 t0 : Nat) {a : Nat} {cA : ClassId} {x : vp_A} {ty : FieldType} (ha : (wd u)[q0]? = some (a, .inl (cA, x))) (ht : tys[t0]? = some (cA, ty)) (v : Int32) (hv : Int32.ofNat x.1 = v) (d : decode cc pc = .ok (.arraylength, 1)) (kk : JJ p l e R s m args below meth c cells slots nL D cl wd A Q (pc + 1) lv u (.int v :: st)) : JJ p l e R s m args below meth c cells slots nL D cl wd A Q pc lv u (.ref a :: st) :=
  fun H locs ls X hl => va_alen C.1 C.2.1 C.2.2.2.2.2.1 X.1 q0 t0 ha ht hv d (kk H locs ls X hl)
end JK
-- CONTRACTS over a world that keeps its addresses
def jk_P {S : Type} (D : va_G) (cl : List vw_C) (tys : List (ClassId × FieldType)) (wd : S → va_W) (u : S) (sz : Nat) (U : State) : Prop := U.heap.size = sz ∧ va_P D cl (wd u) U.heap ∧ va_K D cl tys U ∧ va_D (fun _ => True) (wd u)
def jk_E {S : Type} (D : va_G) (cl : List vw_C) (tys : List (ClassId × FieldType)) (wd : S → va_W) (A : Nat → Prop) (u : S) (t : State) : Prop := va_P D cl (wd u) t.heap ∧ va_K D cl tys t ∧ va_D A (wd u)
def CtI {S : Type} (l : Launch) (y : MethodName) (ws : List Cond) (rm : Room) (D : va_G) (cl : List vw_C) (tys : List (ClassId × FieldType)) (wd : S → va_W) (av : List Value) (u : S) (fr : Int32) (fu : S) : Prop :=
  ∀ sz : Nat, Met l y ws rm (va_Pc av (jk_P D cl tys wd u sz)) (va_Qi (fun r u' => r = fr ∧ u' = fu) (jk_E D cl tys wd (va_A (wd u) sz)) (va_A (wd u) sz)) 0 0 (va_A (wd u) sz)
def CtV {S : Type} (l : Launch) (y : MethodName) (ws : List Cond) (rm : Room) (D : va_G) (cl : List vw_C) (tys : List (ClassId × FieldType)) (wd : S → va_W) (av : List Value) (u : S) (fu : S) : Prop :=
  ∀ sz : Nat, Met l y ws rm (va_Pc av (jk_P D cl tys wd u sz)) (va_Qv (fun u' => u' = fu) (jk_E D cl tys wd (va_A (wd u) sz)) (va_A (wd u) sz)) 0 0 (va_A (wd u) sz)
/-- a method's body: its context, its room, and its end -/
def jk_BI {S : Type} (p : Program) (l : Launch) (e : Env) (R : Room) (s : State) (m : MethodId) (args : Array Value) (below : List Frame) (meth : Method) (c : Code) (cc : ByteArray) (nL : Nat) (own : String) (Ts : List Cond) (ty : FieldType) (D : va_G) (cl : List vw_C) (tys : List (ClassId × FieldType)) (wd : S → va_W) (A : Nat → Prop) (Q : State → Prop) (rm : Room) (F : Int32 × S) : Prop :=
  jk_C p R s m args c 0 0 cc nL own Ts D cl tys A ∧ R = rm ∧ ∀ (pc : Nat) (lv : List (Nat × Value)) (v : Int32) (u : S), decode cc pc = .ok (.ireturn, 1) → narrow ty (.int v) = .int v → (v, u) = F → JJ p l e R s m args below meth c 0 0 nL D cl wd A Q pc lv u [.int v]
def jk_BV {S : Type} (p : Program) (l : Launch) (e : Env) (R : Room) (s : State) (m : MethodId) (args : Array Value) (below : List Frame) (meth : Method) (c : Code) (cc : ByteArray) (nL : Nat) (own : String) (Ts : List Cond) (D : va_G) (cl : List vw_C) (tys : List (ClassId × FieldType)) (wd : S → va_W) (A : Nat → Prop) (Q : State → Prop) (rm : Room) (F : S) : Prop :=
  jk_C p R s m args c 0 0 cc nL own Ts D cl tys A ∧ R = rm ∧ ∀ (pc : Nat) (lv : List (Nat × Value)) (u : S), decode cc pc = .ok (.return_, 1) → u = F → JJ p l e R s m args below meth c 0 0 nL D cl wd A Q pc lv u []
set_option maxHeartbeats 1000000 in
theorem jk_metI {S : Type} {l : Launch} {y : MethodName} {cc : ByteArray} {nL : Nat} {own : String} {Ts : List Cond} {ty : FieldType} {rm : Room} {D : va_G} {cl : List vw_C} {tys : List (ClassId × FieldType)} {wd : S → va_W} {av : List Value} {u : S} {fr : Int32} {fu : S}
    (hy : plainName y.cls = true) (hc : y.cls = own) (hav : (lg_sl av).length ≤ nL)
    (body : ∀ (p : Program) (e : Env) (R : Room) (s : State) (m : MethodId) (args : Array Value) (below : List Frame) (meth : Method) (c : Code) (A : Nat → Prop) (Q : State → Prop), jk_BI p l e R s m args below meth c cc nL own Ts ty D cl tys wd A Q rm (fr, fu) → JJ p l e R s m args below meth c 0 0 nL D cl wd A Q 0 (lv_args 0 av) u []) :
    CtI l y (.code y cc nL (some ty) :: Ts) rm D cl tys wd av u fr fu := by
  intro sz
  refine Met.ofW (cc := cc) (maxL := nL) (ret := some ty) hy rfl ?_
  intro p e s m args below meth c s₁ B hml hv
  obtain ⟨rfl, hsz, hP, hK, hD0⟩ := hv
  have hts := atoms_spec (ws := .code y cc nL (some ty) :: Ts) B.pre
  have hown : s.vm.findClass own = some m.cls := by rw [← hc]; exact findClass_of_methodNamed B.named
  have hlocks := B.notSynchronized
  subst hsz
  have hD := hD0.self (sz := s.heap.size)
  generalize hAe : va_A (wd u) s.heap.size = A at hD ⊢
  have hA : ∀ q : Nat, s.heap.size ≤ q → A q := fun q h => by rw [← hAe]; exact Or.inr h
  have hC : jk_C p rm s m av.toArray c 0 0 cc nL own Ts D cl tys A := ⟨B.exec, B.bytes, hml, hown, fun w hw => hts w (List.mem_cons_of_mem _ hw), hK, hA, Nat.zero_le _, Nat.zero_le _⟩
  have hl := lv_entry av (n := nL) hav
  rw [lg_entry_eq]
  refine body p e rm s m av.toArray below meth c A _ ⟨hC, rfl, ?_⟩ s.heap [] _ ⟨hP, hD, va_S.rf⟩ hl
  intro pc lv v u' d hn hF H locs ls X hl'
  obtain ⟨rfl, rfl⟩ := Prod.mk.inj hF
  exact W.zret B.exec B.bytes B.returns hn (fun t ht hW => ⟨⟨v, u', rfl, ⟨rfl, rfl⟩, by rw [ht]; exact X.1, va_K.moved hW.alike hK, X.2.1⟩, X.2.2.F ht⟩) X.2.2.2.2 d
set_option maxHeartbeats 1000000 in
theorem jk_metV {S : Type} {l : Launch} {y : MethodName} {cc : ByteArray} {nL : Nat} {own : String} {Ts : List Cond} {rm : Room} {D : va_G} {cl : List vw_C} {tys : List (ClassId × FieldType)} {wd : S → va_W} {av : List Value} {u : S} {fu : S}
    (hy : plainName y.cls = true) (hc : y.cls = own) (hav : (lg_sl av).length ≤ nL)
    (body : ∀ (p : Program) (e : Env) (R : Room) (s : State) (m : MethodId) (args : Array Value) (below : List Frame) (meth : Method) (c : Code) (A : Nat → Prop) (Q : State → Prop), jk_BV p l e R s m args below meth c cc nL own Ts D cl tys wd A Q rm fu → JJ p l e R s m args below meth c 0 0 nL D cl wd A Q 0 (lv_args 0 av) u []) :
    CtV l y (.code y cc nL none :: Ts) rm D cl tys wd av u fu := by
  intro sz
  refine Met.ofW (cc := cc) (maxL := nL) (ret := none) hy rfl ?_
  intro p e s m args below meth c s₁ B hml hv
  obtain ⟨rfl, hsz, hP, hK, hD0⟩ := hv
  have hts := atoms_spec (ws := .code y cc nL none :: Ts) B.pre
  have hown : s.vm.findClass own = some m.cls := by rw [← hc]; exact findClass_of_methodNamed B.named
  have hlocks := B.notSynchronized
  subst hsz
  have hD := hD0.self (sz := s.heap.size)
  generalize hAe : va_A (wd u) s.heap.size = A at hD ⊢
  have hA : ∀ q : Nat, s.heap.size ≤ q → A q := fun q h => by rw [← hAe]; exact Or.inr h
  have hC : jk_C p rm s m av.toArray c 0 0 cc nL own Ts D cl tys A := ⟨B.exec, B.bytes, hml, hown, fun w hw => hts w (List.mem_cons_of_mem _ hw), hK, hA, Nat.zero_le _, Nat.zero_le _⟩
  have hl := lv_entry av (n := nL) hav
  rw [lg_entry_eq]
  refine body p e rm s m av.toArray below meth c A _ ⟨hC, rfl, ?_⟩ s.heap [] _ ⟨hP, hD, va_S.rf⟩ hl
  intro pc lv u' d hF H locs ls X hl'
  subst hF
  exact W.vret B.exec B.bytes B.returns (fun t ht hW => ⟨⟨u', rfl, rfl, by rw [ht]; exact X.1, va_K.moved hW.alike hK, X.2.1⟩, X.2.2.F ht⟩) X.2.2.2.2 d
end
section
section JKC
variable {S : Type} {p : Program} {l : Launch} {e : Env} {R : Room} {s : State} {m : MethodId} {args : Array Value} {below : List Frame} {meth : Method} {c : Code} {cells slots : Nat} {cc : ByteArray} {nL : Nat} {own : String} {Ts : List Cond} {D : va_G} {cl : List vw_C} {tys : List (ClassId × FieldType)} {wd : S → va_W} {A : Nat → Prop} {Q : State → Prop} {pc : Nat} {lv : List (Nat × Value)} {u : S} {st : List Value}
theorem jk_in (C : jk_C p R s m args c cells slots cc nL own Ts D cl tys A) {H : Heap} {locs : List Loc} (X : jk_X D cl wd A s.heap u H locs) : ∀ q, va_A (wd u) H.size q → A q := by
  intro q h
  rcases h with ⟨k, e, h⟩ | h
  · exact X.2.1.2 k (q, e) h
  · exact C.2.2.2.2.2.2.1 q (Nat.le_trans X.2.2.1 h)
theorem jk_blind {av : List Value} {sz : Nat} : FrameBlind (va_Pc av (jk_P D cl tys wd u sz)) := fun a U g mk q => by
  obtain ⟨q0, q1, qP, qK, qD⟩ := q
  exact ⟨q0, q1, qP, va_K.moved (u := U) (U := U.calling g mk a) (Vm.Alike.refl U.vm) qK, qD⟩
theorem jk_pre (C : jk_C p R s m args c cells slots cc nL own Ts D cl tys A) {H : Heap} {locs : List Loc} (X : jk_X D cl wd A s.heap u H locs) {av : List Value} : ∀ U : State, U.heap = H → s.WarmedH U.vm → va_Pc av (jk_P D cl tys wd u H.size) av.toArray U :=
  fun U hU hW => ⟨rfl, by rw [hU], by rw [hU]; exact X.1, va_K.moved hW.alike C.2.2.2.2.2.1, X.2.1.weaken (fun _ _ _ _ => trivial)⟩
theorem j_runI (C : jk_C p R s m args c cells slots cc nL own Ts D cl tys A) {fr : Int32} {fu : S} {rest : List Value} {a : Array Value}
    (hr : ∀ (H : Heap) (locs : List Loc) (ls : Array Slot), jk_X D cl wd A s.heap u H locs → lv_has ls nL lv → va_Run p l e R s m args below meth c H locs cells slots 0 0 (F0 m pc ls st) rest (va_Qi (fun r u' => r = fr ∧ u' = fu) (jk_E D cl tys wd (va_A (wd u) H.size)) (va_A (wd u) H.size) a) (va_A (wd u) H.size))
    (kk : JJ p l e R s m args below meth c cells slots nL D cl wd A Q (pc + 3) lv fu (.int fr :: rest)) : JJ p l e R s m args below meth c cells slots nL D cl wd A Q pc lv u st := by
  intro H locs ls X hl
  have hF := jk_in C X
  refine va_calli (hr H locs ls X hl) X.2.2 (fun q _ h => hF q h) hF (fun r u' t H1 locs1 ht hvm hw hB hz1 hk1 hS => ?_)
  obtain ⟨rfl, rfl⟩ := hw
  obtain ⟨hP1, hK1, hD1⟩ := hB
  rw [ht] at hP1
  exact kk H1 locs1 ls ⟨hP1, hD1.weaken (fun _ q _ h => hF q.1 h), hS⟩ hl
theorem j_runV (C : jk_C p R s m args c cells slots cc nL own Ts D cl tys A) {fu : S} {rest : List Value} {a : Array Value}
    (hr : ∀ (H : Heap) (locs : List Loc) (ls : Array Slot), jk_X D cl wd A s.heap u H locs → lv_has ls nL lv → va_Run p l e R s m args below meth c H locs cells slots 0 0 (F0 m pc ls st) rest (va_Qv (fun u' => u' = fu) (jk_E D cl tys wd (va_A (wd u) H.size)) (va_A (wd u) H.size) a) (va_A (wd u) H.size))
    (kk : JJ p l e R s m args below meth c cells slots nL D cl wd A Q (pc + 3) lv fu rest) : JJ p l e R s m args below meth c cells slots nL D cl wd A Q pc lv u st := by
  intro H locs ls X hl
  have hF := jk_in C X
  refine va_callv (hr H locs ls X hl) X.2.2 (fun q _ h => hF q h) hF (fun u' t H1 locs1 ht hvm hw hB hz1 hk1 hS => ?_)
  subst hw
  obtain ⟨hP1, hK1, hD1⟩ := hB
  rw [ht] at hP1
  exact kk H1 locs1 ls ⟨hP1, hD1.weaken (fun _ q _ h => hF q.1 h), hS⟩ hl
/-- the words of a call, all out of one table of good words -/
def jk_good (Ts : List Cond) : Prop := ∀ w ∈ Ts, (w.onTables && w.keeps) = true ∨ ∃ ty, w = .arrayClass ty
theorem jk_GI (hg : jk_good Ts) {y : MethodName} {bytes : ByteArray} {maxL : Nat} {ret : Option FieldType} (hc : Cond.code y bytes maxL ret ∈ Ts) : GoodIn Ts (Cond.code y bytes maxL ret :: Ts) := by
  intro w hw
  rcases List.mem_cons.mp hw with rfl | h
  · exact ⟨hc, hg _ hc⟩
  · exact ⟨h, hg _ h⟩
theorem jk_GV (hg : jk_good Ts) {own : String} {idx : Nat} {Cn : String} {y : MethodName} {bytes : ByteArray} {maxL : Nat} {ret : Option FieldType} (h : ∀ w ∈ ([.methodLink own idx y, .instanceMethod y, .selects Cn y y, .initialized Cn] : List Cond), w ∈ Ts) (hc : Cond.code y bytes maxL ret ∈ Ts) : GoodIn Ts (wsV own idx Cn y (Cond.code y bytes maxL ret :: Ts)) := by
  intro w hw
  unfold wsV at hw
  rcases List.mem_append.mp hw with h1 | h1
  · exact ⟨h w h1, hg _ (h w h1)⟩
  · exact jk_GI hg hc w h1
theorem jk_GS (hg : jk_good Ts) {own : String} {idx : Nat} {y : MethodName} {bytes : ByteArray} {maxL : Nat} {ret : Option FieldType} (h : ∀ w ∈ ([.methodLink own idx y, .static y, .initialized y.cls] : List Cond), w ∈ Ts) (hc : Cond.code y bytes maxL ret ∈ Ts) : GoodIn Ts (va_wsS own idx y (Cond.code y bytes maxL ret :: Ts)) := by
  intro w hw
  unfold va_wsS at hw
  rcases List.mem_append.mp hw with h1 | h1
  · exact ⟨h w h1, hg _ (h w h1)⟩
  · exact jk_GI hg hc w h1
/-- a call's shape: its stack, its room, its descriptor -/
theorem j_cIV (C : jk_C p R s m args c cells slots cc nL own Ts D cl tys A) {y : MethodName} {bytes : ByteArray} {maxL index n : Nat} {ret : Option FieldType} {rm rm' : Room} {Cn : String} {b : Nat} {As rest : List Value} {fr : Int32} {fu : S}
    (hR0 : R = rm) (hM : CtI l y (.code y bytes maxL ret :: Ts) rm' D cl tys wd (.ref b :: As) u fr fu) (hG : GoodIn Ts (wsV own index Cn y (Cond.code y bytes maxL ret :: Ts)))
    (hd : y.cls = Cn ∧ y.cls ≠ "java/lang/invoke/MethodHandle" ∧ y.cls ≠ "java/lang/invoke/VarHandle" ∧ (parseMethodDescriptor y.desc).map (fun d => d.parameters.length) = some n) (hR : (rm'.cells = 0 ∧ rm'.slots = 0) ∧ rm'.frames + 1 ≤ rm.frames ∧ 8 + (maxL + 11) + rm'.locals ≤ rm.locals)
    (q0 ci : Nat) {q : vw_C} {fs : List Value} (hrv : (wd u)[q0]? = some (b, .inr (ci, fs))) (hcl : cl[ci]? = some q) (hq : q.1 = Cn) (hn : As.length = n) (hst : st = As.reverse ++ .ref b :: rest) (hw : (rest.map fun v => v.category).sum ≤ 8) (d : decode cc pc = .ok (.invokevirtual index, 3))
    (kk : JJ p l e R s m args below meth c cells slots nL D cl wd A Q (pc + 3) lv fu (.int fr :: rest)) : JJ p l e R s m args below meth c cells slots nL D cl wd A Q pc lv u st := by
  subst hR0
  subst hq
  refine j_runI C (a := (.ref b :: As).toArray) (fun H locs ls X hl => ?_) kk
  exact va_runV (cc := cc) (nL := nL) (g := F0 m pc ls st) (As := As) (rest := rest) ⟨C.1, C.2.1, C.2.2.1, C.2.2.2.1, C.2.2.2.2.1⟩ (hM H.size) (cwV n C.2.2.2.2.1 hG rfl hR.1.1 hR.1.2 hd hR.2) ⟨jk_blind, va_recv C.2.2.2.2.2.1 X.1 hcl hrv, jk_pre C X⟩ rfl hn hl.1 hst (lv_room hw) d C.2.2.2.2.2.2.2
theorem j_cVV (C : jk_C p R s m args c cells slots cc nL own Ts D cl tys A) {y : MethodName} {bytes : ByteArray} {maxL index n : Nat} {ret : Option FieldType} {rm rm' : Room} {Cn : String} {b : Nat} {As rest : List Value} {fu : S}
    (hR0 : R = rm) (hM : CtV l y (.code y bytes maxL ret :: Ts) rm' D cl tys wd (.ref b :: As) u fu) (hG : GoodIn Ts (wsV own index Cn y (Cond.code y bytes maxL ret :: Ts)))
    (hd : y.cls = Cn ∧ y.cls ≠ "java/lang/invoke/MethodHandle" ∧ y.cls ≠ "java/lang/invoke/VarHandle" ∧ (parseMethodDescriptor y.desc).map (fun d => d.parameters.length) = some n) (hR : (rm'.cells = 0 ∧ rm'.slots = 0) ∧ rm'.frames + 1 ≤ rm.frames ∧ 8 + (maxL + 11) + rm'.locals ≤ rm.locals)
    (q0 ci : Nat) {q : vw_C} {fs : List Value} (hrv : (wd u)[q0]? = some (b, .inr (ci, fs))) (hcl : cl[ci]? = some q) (hq : q.1 = Cn) (hn : As.length = n) (hst : st = As.reverse ++ .ref b :: rest) (hw : (rest.map fun v => v.category).sum ≤ 8) (d : decode cc pc = .ok (.invokevirtual index, 3))
    (kk : JJ p l e R s m args below meth c cells slots nL D cl wd A Q (pc + 3) lv fu rest) : JJ p l e R s m args below meth c cells slots nL D cl wd A Q pc lv u st := by
  subst hR0
  subst hq
  refine j_runV C (a := (.ref b :: As).toArray) (fun H locs ls X hl => ?_) kk
  exact va_runV (cc := cc) (nL := nL) (g := F0 m pc ls st) (As := As) (rest := rest) ⟨C.1, C.2.1, C.2.2.1, C.2.2.2.1, C.2.2.2.2.1⟩ (hM H.size) (cwV n C.2.2.2.2.1 hG rfl hR.1.1 hR.1.2 hd hR.2) ⟨jk_blind, va_recv C.2.2.2.2.2.1 X.1 hcl hrv, jk_pre C X⟩ rfl hn hl.1 hst (lv_room hw) d C.2.2.2.2.2.2.2
theorem j_cIS (C : jk_C p R s m args c cells slots cc nL own Ts D cl tys A) {y : MethodName} {bytes : ByteArray} {maxL index n : Nat} {ret : Option FieldType} {rm rm' : Room} {As rest : List Value} {fr : Int32} {fu : S}
    (hR0 : R = rm) (hM : CtI l y (.code y bytes maxL ret :: Ts) rm' D cl tys wd As u fr fu) (hG : GoodIn Ts (va_wsS own index y (Cond.code y bytes maxL ret :: Ts)))
    (hd : y.cls ≠ "java/lang/invoke/MethodHandle" ∧ y.cls ≠ "java/lang/invoke/VarHandle" ∧ (parseMethodDescriptor y.desc).map (fun d => d.parameters.length) = some n) (hR : (rm'.cells = 0 ∧ rm'.slots = 0) ∧ rm'.frames + 1 ≤ rm.frames ∧ 8 + (maxL + 11) + rm'.locals ≤ rm.locals)
    (hn : As.length = n) (hst : st = As.reverse ++ rest) (hw : (rest.map fun v => v.category).sum ≤ 8) (d : decode cc pc = .ok (.invokestatic index, 3))
    (kk : JJ p l e R s m args below meth c cells slots nL D cl wd A Q (pc + 3) lv fu (.int fr :: rest)) : JJ p l e R s m args below meth c cells slots nL D cl wd A Q pc lv u st := by
  subst hR0
  refine j_runI C (a := As.toArray) (fun H locs ls X hl => ?_) kk
  exact va_runS (cc := cc) (nL := nL) (g := F0 m pc ls st) (As := As) (rest := rest) ⟨C.1, C.2.1, C.2.2.1, C.2.2.2.1, C.2.2.2.2.1⟩ (hM H.size) (va_cwS n C.2.2.2.2.1 hG rfl hR.1.1 hR.1.2 hd hR.2) ⟨jk_blind, jk_pre C X⟩ rfl hn hl.1 hst (lv_room hw) d C.2.2.2.2.2.2.2
/-- a nest mate's static method -/
theorem j_cISN (C : jk_C p R s m args c cells slots cc nL own Ts D cl tys A) {y : MethodName} {bytes : ByteArray} {maxL index n : Nat} {ret : Option FieldType} {rm rm' : Room} {host : String} {As rest : List Value} {fr : Int32} {fu : S}
    (hR0 : R = rm) (hM : CtI l y (.code y bytes maxL ret :: Ts) rm' D cl tys wd As u fr fu) (hG : GoodIn Ts (Cond.code y bytes maxL ret :: Ts)) (hl0 : va_Nw (.methodLinkNest own index y host) s) (hini : Cond.initialized y.cls ∈ Ts) (hsta : Cond.static y ∈ Ts)
    (hd : y.cls ≠ "java/lang/invoke/MethodHandle" ∧ y.cls ≠ "java/lang/invoke/VarHandle" ∧ (parseMethodDescriptor y.desc).map (fun d => d.parameters.length) = some n) (hR : (rm'.cells = 0 ∧ rm'.slots = 0) ∧ rm'.frames + 1 ≤ rm.frames ∧ 8 + (maxL + 11) + rm'.locals ≤ rm.locals)
    (hn : As.length = n) (hst : st = As.reverse ++ rest) (hw : (rest.map fun v => v.category).sum ≤ 8) (d : decode cc pc = .ok (.invokestatic index, 3))
    (kk : JJ p l e R s m args below meth c cells slots nL D cl wd A Q (pc + 3) lv fu (.int fr :: rest)) : JJ p l e R s m args below meth c cells slots nL D cl wd A Q pc lv u st := by
  subst hR0
  refine j_runI C (a := As.toArray) (fun H locs ls X hl => ?_) kk
  exact va_runSN (cc := cc) (nL := nL) (g := F0 m pc ls st) (As := As) (rest := rest) ⟨C.1, C.2.1, C.2.2.1, C.2.2.2.1, C.2.2.2.2.1⟩ (hM H.size) ⟨va_cnB n C.2.2.2.2.1 hG rfl hR.1.1 hR.1.2 hl0 (C.2.2.2.2.1 _ hini) hd hR.2, C.2.2.2.2.1 _ hsta, trivial⟩ ⟨jk_blind, jk_pre C X⟩ rfl hn hl.1 hst (lv_room hw) d C.2.2.2.2.2.2.2
/-- Math.max -/
theorem j_max (C : jk_C p R s m args c cells slots cc nL own Ts D cl tys A) {x y : Int32} {index : Nat} {rm : Room} (hR0 : R = rm) (hR : 1 ≤ rm.frames) (hL : (st.map fun v => v.category).sum + 13 ≤ rm.locals) (h : ∀ w ∈ ([.methodLink own index Lib.Math.max.name, .static Lib.Math.max.name, .initialized "java/lang/Math"] : List Cond), w ∈ Ts) (hc : Cond.code Lib.Math.max.name Lib.Math.max.code 2 (some .int) ∈ Ts) (d : decode cc pc = .ok (.invokestatic index, 3)) (kk : JJ p l e R s m args below meth c cells slots nL D cl wd A Q (pc + 3) lv u (.int (if x < y then y else x) :: st)) : JJ p l e R s m args below meth c cells slots nL D cl wd A Q pc lv u (.int y :: .int x :: st) := by
  subst hR0
  intro H locs ls X hl
  exact va_mmax C.1 C.2.1 (C.2.2.1.trans hl.1.symm) C.2.2.2.1 (C.2.2.2.2.1 _ (h _ (by simp))) (C.2.2.2.2.1 _ (h _ (by simp))) (C.2.2.2.2.1 _ (h _ (by simp))) (C.2.2.2.2.1 _ hc) hR hL C.2.2.2.2.2.2.2.1 C.2.2.2.2.2.2.2.2 d (kk H locs ls X hl)
end JKC
end
