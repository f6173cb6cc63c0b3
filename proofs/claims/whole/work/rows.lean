section
-- ===== PART A: goes FIRST, ahead of the names: the tables' words, and 'selects' of the private methods out of them =====
/-- a private method of a class that the tables say can be made, by its rows of tables_1 -/
def lw_okq (q : MethodName × Nat) : Prop := (q.1.cls ≠ "java/lang/invoke/MethodHandle" ∧ q.1.cls ≠ "java/lang/invoke/VarHandle") ∧ Cond.instantiable q.1.cls q.2 ∈ tables_1 ∧ Cond.privateMethod q.1 ∈ tables_1 ∧ Cond.instanceMethod q.1 ∈ tables_1
theorem lw_p0 : lw_okq (⟨"CrossingDesk", "isGreen", "(I)Z"⟩, 8) := ⟨⟨by decide +kernel, by decide +kernel⟩, List.mem_of_getElem? (i := 8) (by decide +kernel), List.mem_of_getElem? (i := 205) (by decide +kernel), List.mem_of_getElem? (i := 206) (by decide +kernel)⟩
theorem lw_p1 : lw_okq (⟨"CrossingDesk", "tick", "()I"⟩, 8) := ⟨⟨by decide +kernel, by decide +kernel⟩, List.mem_of_getElem? (i := 8) (by decide +kernel), List.mem_of_getElem? (i := 224) (by decide +kernel), List.mem_of_getElem? (i := 225) (by decide +kernel)⟩
theorem lw_p2 : lw_okq (⟨"CrossingDesk", "isFlashing", "()Z"⟩, 8) := ⟨⟨by decide +kernel, by decide +kernel⟩, List.mem_of_getElem? (i := 8) (by decide +kernel), List.mem_of_getElem? (i := 228) (by decide +kernel), List.mem_of_getElem? (i := 229) (by decide +kernel)⟩
theorem lw_p3 : lw_okq (⟨"CrossingDesk", "countWaits", "()V"⟩, 8) := ⟨⟨by decide +kernel, by decide +kernel⟩, List.mem_of_getElem? (i := 8) (by decide +kernel), List.mem_of_getElem? (i := 232) (by decide +kernel), List.mem_of_getElem? (i := 233) (by decide +kernel)⟩
theorem lw_p4 : lw_okq (⟨"CrossingDesk", "isCalled", "(I)Z"⟩, 8) := ⟨⟨by decide +kernel, by decide +kernel⟩, List.mem_of_getElem? (i := 8) (by decide +kernel), List.mem_of_getElem? (i := 236) (by decide +kernel), List.mem_of_getElem? (i := 237) (by decide +kernel)⟩
theorem lw_p5 : lw_okq (⟨"CrossingDesk", "advanceRings", "()V"⟩, 8) := ⟨⟨by decide +kernel, by decide +kernel⟩, List.mem_of_getElem? (i := 8) (by decide +kernel), List.mem_of_getElem? (i := 252) (by decide +kernel), List.mem_of_getElem? (i := 253) (by decide +kernel)⟩
theorem lw_p6 : lw_okq (⟨"CrossingDesk", "isAnyCalledOn", "(I)Z"⟩, 8) := ⟨⟨by decide +kernel, by decide +kernel⟩, List.mem_of_getElem? (i := 8) (by decide +kernel), List.mem_of_getElem? (i := 256) (by decide +kernel), List.mem_of_getElem? (i := 257) (by decide +kernel)⟩
theorem lw_p7 : lw_okq (⟨"CrossingDesk$Ring", "enter", "(I)V"⟩, 10) := ⟨⟨by decide +kernel, by decide +kernel⟩, List.mem_of_getElem? (i := 73) (by decide +kernel), List.mem_of_getElem? (i := 273) (by decide +kernel), List.mem_of_getElem? (i := 274) (by decide +kernel)⟩
theorem lw_p8 : lw_okq (⟨"CrossingDesk", "goOnWithinSide", "(LCrossingDesk$Ring;)V"⟩, 8) := ⟨⟨by decide +kernel, by decide +kernel⟩, List.mem_of_getElem? (i := 8) (by decide +kernel), List.mem_of_getElem? (i := 281) (by decide +kernel), List.mem_of_getElem? (i := 282) (by decide +kernel)⟩
theorem lw_p9 : lw_okq (⟨"CrossingDesk", "mayEnd", "(LCrossingDesk$Ring;)Z"⟩, 8) := ⟨⟨by decide +kernel, by decide +kernel⟩, List.mem_of_getElem? (i := 8) (by decide +kernel), List.mem_of_getElem? (i := 285) (by decide +kernel), List.mem_of_getElem? (i := 286) (by decide +kernel)⟩
theorem lw_p10 : lw_okq (⟨"CrossingDesk", "calledOn", "(LCrossingDesk$Ring;I)I"⟩, 8) := ⟨⟨by decide +kernel, by decide +kernel⟩, List.mem_of_getElem? (i := 8) (by decide +kernel), List.mem_of_getElem? (i := 304) (by decide +kernel), List.mem_of_getElem? (i := 305) (by decide +kernel)⟩
theorem lw_p11 : lw_okq (⟨"CrossingDesk", "leaveSideOrTurnBack", "()V"⟩, 8) := ⟨⟨by decide +kernel, by decide +kernel⟩, List.mem_of_getElem? (i := 8) (by decide +kernel), List.mem_of_getElem? (i := 308) (by decide +kernel), List.mem_of_getElem? (i := 309) (by decide +kernel)⟩
theorem lw_p12 : lw_okq (⟨"CrossingDesk", "turnBackToFirst", "(LCrossingDesk$Ring;)V"⟩, 8) := ⟨⟨by decide +kernel, by decide +kernel⟩, List.mem_of_getElem? (i := 8) (by decide +kernel), List.mem_of_getElem? (i := 312) (by decide +kernel), List.mem_of_getElem? (i := 313) (by decide +kernel)⟩
theorem lw_p13 : lw_okq (⟨"CrossingDesk", "isReady", "(LCrossingDesk$Ring;)Z"⟩, 8) := ⟨⟨by decide +kernel, by decide +kernel⟩, List.mem_of_getElem? (i := 8) (by decide +kernel), List.mem_of_getElem? (i := 316) (by decide +kernel), List.mem_of_getElem? (i := 317) (by decide +kernel)⟩
theorem lw_p14 : lw_okq (⟨"CrossingDesk", "beginCrossing", "()V"⟩, 8) := ⟨⟨by decide +kernel, by decide +kernel⟩, List.mem_of_getElem? (i := 8) (by decide +kernel), List.mem_of_getElem? (i := 320) (by decide +kernel), List.mem_of_getElem? (i := 321) (by decide +kernel)⟩
theorem lw_p15 : lw_okq (⟨"CrossingDesk", "endCrossing", "()V"⟩, 8) := ⟨⟨by decide +kernel, by decide +kernel⟩, List.mem_of_getElem? (i := 8) (by decide +kernel), List.mem_of_getElem? (i := 324) (by decide +kernel), List.mem_of_getElem? (i := 325) (by decide +kernel)⟩
def lw_privs_1 : List (MethodName × Nat) := [(⟨"CrossingDesk", "isGreen", "(I)Z"⟩, 8), (⟨"CrossingDesk", "tick", "()I"⟩, 8), (⟨"CrossingDesk", "isFlashing", "()Z"⟩, 8), (⟨"CrossingDesk", "countWaits", "()V"⟩, 8), (⟨"CrossingDesk", "isCalled", "(I)Z"⟩, 8), (⟨"CrossingDesk", "advanceRings", "()V"⟩, 8), (⟨"CrossingDesk", "isAnyCalledOn", "(I)Z"⟩, 8), (⟨"CrossingDesk$Ring", "enter", "(I)V"⟩, 10), (⟨"CrossingDesk", "goOnWithinSide", "(LCrossingDesk$Ring;)V"⟩, 8), (⟨"CrossingDesk", "mayEnd", "(LCrossingDesk$Ring;)Z"⟩, 8), (⟨"CrossingDesk", "calledOn", "(LCrossingDesk$Ring;I)I"⟩, 8), (⟨"CrossingDesk", "leaveSideOrTurnBack", "()V"⟩, 8), (⟨"CrossingDesk", "turnBackToFirst", "(LCrossingDesk$Ring;)V"⟩, 8), (⟨"CrossingDesk", "isReady", "(LCrossingDesk$Ring;)Z"⟩, 8), (⟨"CrossingDesk", "beginCrossing", "()V"⟩, 8), (⟨"CrossingDesk", "endCrossing", "()V"⟩, 8)]
theorem lw_r1 : ∀ q ∈ lw_privs_1, lw_okq q := List.forall_mem_cons.mpr ⟨lw_p0, List.forall_mem_cons.mpr ⟨lw_p1, List.forall_mem_cons.mpr ⟨lw_p2, List.forall_mem_cons.mpr ⟨lw_p3, List.forall_mem_cons.mpr ⟨lw_p4, List.forall_mem_cons.mpr ⟨lw_p5, List.forall_mem_cons.mpr ⟨lw_p6, List.forall_mem_cons.mpr ⟨lw_p7, List.forall_mem_cons.mpr ⟨lw_p8, List.forall_mem_cons.mpr ⟨lw_p9, List.forall_mem_cons.mpr ⟨lw_p10, List.forall_mem_cons.mpr ⟨lw_p11, List.forall_mem_cons.mpr ⟨lw_p12, List.forall_mem_cons.mpr ⟨lw_p13, List.forall_mem_cons.mpr ⟨lw_p14, List.forall_mem_cons.mpr ⟨lw_p15, fun _ h => absurd h List.not_mem_nil⟩⟩⟩⟩⟩⟩⟩⟩⟩⟩⟩⟩⟩⟩⟩⟩
theorem lw_p16 : lw_okq (⟨"CrossingDesk", "comingAlongOn", "(LCrossingDesk$Ring;I)I"⟩, 8) := ⟨⟨by decide +kernel, by decide +kernel⟩, List.mem_of_getElem? (i := 8) (by decide +kernel), List.mem_of_getElem? (i := 328) (by decide +kernel), List.mem_of_getElem? (i := 329) (by decide +kernel)⟩
theorem lw_p17 : lw_okq (⟨"CrossingDesk", "beginGreens", "()I"⟩, 8) := ⟨⟨by decide +kernel, by decide +kernel⟩, List.mem_of_getElem? (i := 8) (by decide +kernel), List.mem_of_getElem? (i := 336) (by decide +kernel), List.mem_of_getElem? (i := 337) (by decide +kernel)⟩
theorem lw_p18 : lw_okq (⟨"CrossingDesk", "showLightsToGuard", "()V"⟩, 8) := ⟨⟨by decide +kernel, by decide +kernel⟩, List.mem_of_getElem? (i := 8) (by decide +kernel), List.mem_of_getElem? (i := 352) (by decide +kernel), List.mem_of_getElem? (i := 353) (by decide +kernel)⟩
theorem lw_p19 : lw_okq (⟨"CrossingDesk", "shownLight", "(I)I"⟩, 8) := ⟨⟨by decide +kernel, by decide +kernel⟩, List.mem_of_getElem? (i := 8) (by decide +kernel), List.mem_of_getElem? (i := 356) (by decide +kernel), List.mem_of_getElem? (i := 357) (by decide +kernel)⟩
theorem lw_p20 : lw_okq (⟨"CrossingDesk", "toldLight", "(I)I"⟩, 8) := ⟨⟨by decide +kernel, by decide +kernel⟩, List.mem_of_getElem? (i := 8) (by decide +kernel), List.mem_of_getElem? (i := 360) (by decide +kernel), List.mem_of_getElem? (i := 361) (by decide +kernel)⟩
theorem lw_p21 : lw_okq (⟨"CrossingDesk$Guard", "leastFault", "([IZ)I"⟩, 4) := ⟨⟨by decide +kernel, by decide +kernel⟩, List.mem_of_getElem? (i := 118) (by decide +kernel), List.mem_of_getElem? (i := 374) (by decide +kernel), List.mem_of_getElem? (i := 375) (by decide +kernel)⟩
theorem lw_p22 : lw_okq (⟨"CrossingDesk$Guard", "hadShortYellow", "(I)Z"⟩, 4) := ⟨⟨by decide +kernel, by decide +kernel⟩, List.mem_of_getElem? (i := 118) (by decide +kernel), List.mem_of_getElem? (i := 378) (by decide +kernel), List.mem_of_getElem? (i := 379) (by decide +kernel)⟩
theorem lw_p23 : lw_okq (⟨"CrossingDeskModel", "isGreen", "(I)Z"⟩, 27) := ⟨⟨by decide +kernel, by decide +kernel⟩, List.mem_of_getElem? (i := 412) (by decide +kernel), List.mem_of_getElem? (i := 525) (by decide +kernel), List.mem_of_getElem? (i := 526) (by decide +kernel)⟩
theorem lw_p24 : lw_okq (⟨"CrossingDeskModel", "has", "(II)Z"⟩, 27) := ⟨⟨by decide +kernel, by decide +kernel⟩, List.mem_of_getElem? (i := 412) (by decide +kernel), List.mem_of_getElem? (i := 529) (by decide +kernel), List.mem_of_getElem? (i := 530) (by decide +kernel)⟩
theorem lw_p25 : lw_okq (⟨"CrossingDeskModel", "allGreens", "()I"⟩, 27) := ⟨⟨by decide +kernel, by decide +kernel⟩, List.mem_of_getElem? (i := 412) (by decide +kernel), List.mem_of_getElem? (i := 545) (by decide +kernel), List.mem_of_getElem? (i := 546) (by decide +kernel)⟩
theorem lw_p26 : lw_okq (⟨"CrossingDeskModel", "tick", "()V"⟩, 27) := ⟨⟨by decide +kernel, by decide +kernel⟩, List.mem_of_getElem? (i := 412) (by decide +kernel), List.mem_of_getElem? (i := 549) (by decide +kernel), List.mem_of_getElem? (i := 550) (by decide +kernel)⟩
theorem lw_p27 : lw_okq (⟨"CrossingDeskModel", "wait0", "()V"⟩, 27) := ⟨⟨by decide +kernel, by decide +kernel⟩, List.mem_of_getElem? (i := 412) (by decide +kernel), List.mem_of_getElem? (i := 553) (by decide +kernel), List.mem_of_getElem? (i := 554) (by decide +kernel)⟩
theorem lw_p28 : lw_okq (⟨"CrossingDeskModel", "isCalled", "(I)Z"⟩, 27) := ⟨⟨by decide +kernel, by decide +kernel⟩, List.mem_of_getElem? (i := 412) (by decide +kernel), List.mem_of_getElem? (i := 557) (by decide +kernel), List.mem_of_getElem? (i := 558) (by decide +kernel)⟩
theorem lw_p29 : lw_okq (⟨"CrossingDeskModel", "ageRing", "(I)V"⟩, 27) := ⟨⟨by decide +kernel, by decide +kernel⟩, List.mem_of_getElem? (i := 412) (by decide +kernel), List.mem_of_getElem? (i := 561) (by decide +kernel), List.mem_of_getElem? (i := 562) (by decide +kernel)⟩
theorem lw_p30 : lw_okq (⟨"CrossingDeskModel", "timeOf", "(II)I"⟩, 27) := ⟨⟨by decide +kernel, by decide +kernel⟩, List.mem_of_getElem? (i := 412) (by decide +kernel), List.mem_of_getElem? (i := 565) (by decide +kernel), List.mem_of_getElem? (i := 566) (by decide +kernel)⟩
theorem lw_p31 : lw_okq (⟨"CrossingDeskModel", "goDark", "(I)V"⟩, 27) := ⟨⟨by decide +kernel, by decide +kernel⟩, List.mem_of_getElem? (i := 412) (by decide +kernel), List.mem_of_getElem? (i := 569) (by decide +kernel), List.mem_of_getElem? (i := 570) (by decide +kernel)⟩
def lw_privs_2 : List (MethodName × Nat) := [(⟨"CrossingDesk", "comingAlongOn", "(LCrossingDesk$Ring;I)I"⟩, 8), (⟨"CrossingDesk", "beginGreens", "()I"⟩, 8), (⟨"CrossingDesk", "showLightsToGuard", "()V"⟩, 8), (⟨"CrossingDesk", "shownLight", "(I)I"⟩, 8), (⟨"CrossingDesk", "toldLight", "(I)I"⟩, 8), (⟨"CrossingDesk$Guard", "leastFault", "([IZ)I"⟩, 4), (⟨"CrossingDesk$Guard", "hadShortYellow", "(I)Z"⟩, 4), (⟨"CrossingDeskModel", "isGreen", "(I)Z"⟩, 27), (⟨"CrossingDeskModel", "has", "(II)Z"⟩, 27), (⟨"CrossingDeskModel", "allGreens", "()I"⟩, 27), (⟨"CrossingDeskModel", "tick", "()V"⟩, 27), (⟨"CrossingDeskModel", "wait0", "()V"⟩, 27), (⟨"CrossingDeskModel", "isCalled", "(I)Z"⟩, 27), (⟨"CrossingDeskModel", "ageRing", "(I)V"⟩, 27), (⟨"CrossingDeskModel", "timeOf", "(II)I"⟩, 27), (⟨"CrossingDeskModel", "goDark", "(I)V"⟩, 27)]
theorem lw_r2 : ∀ q ∈ lw_privs_2, lw_okq q := List.forall_mem_cons.mpr ⟨lw_p16, List.forall_mem_cons.mpr ⟨lw_p17, List.forall_mem_cons.mpr ⟨lw_p18, List.forall_mem_cons.mpr ⟨lw_p19, List.forall_mem_cons.mpr ⟨lw_p20, List.forall_mem_cons.mpr ⟨lw_p21, List.forall_mem_cons.mpr ⟨lw_p22, List.forall_mem_cons.mpr ⟨lw_p23, List.forall_mem_cons.mpr ⟨lw_p24, List.forall_mem_cons.mpr ⟨lw_p25, List.forall_mem_cons.mpr ⟨lw_p26, List.forall_mem_cons.mpr ⟨lw_p27, List.forall_mem_cons.mpr ⟨lw_p28, List.forall_mem_cons.mpr ⟨lw_p29, List.forall_mem_cons.mpr ⟨lw_p30, List.forall_mem_cons.mpr ⟨lw_p31, fun _ h => absurd h List.not_mem_nil⟩⟩⟩⟩⟩⟩⟩⟩⟩⟩⟩⟩⟩⟩⟩⟩
theorem lw_p32 : lw_okq (⟨"CrossingDeskModel", "goOn", "(I)V"⟩, 27) := ⟨⟨by decide +kernel, by decide +kernel⟩, List.mem_of_getElem? (i := 412) (by decide +kernel), List.mem_of_getElem? (i := 573) (by decide +kernel), List.mem_of_getElem? (i := 574) (by decide +kernel)⟩
theorem lw_p33 : lw_okq (⟨"CrossingDeskModel", "mayEnd", "(I)Z"⟩, 27) := ⟨⟨by decide +kernel, by decide +kernel⟩, List.mem_of_getElem? (i := 412) (by decide +kernel), List.mem_of_getElem? (i := 577) (by decide +kernel), List.mem_of_getElem? (i := 578) (by decide +kernel)⟩
theorem lw_p34 : lw_okq (⟨"CrossingDeskModel", "first", "(II)I"⟩, 27) := ⟨⟨by decide +kernel, by decide +kernel⟩, List.mem_of_getElem? (i := 412) (by decide +kernel), List.mem_of_getElem? (i := 581) (by decide +kernel), List.mem_of_getElem? (i := 582) (by decide +kernel)⟩
theorem lw_p35 : lw_okq (⟨"CrossingDeskModel", "second", "(II)I"⟩, 27) := ⟨⟨by decide +kernel, by decide +kernel⟩, List.mem_of_getElem? (i := 412) (by decide +kernel), List.mem_of_getElem? (i := 585) (by decide +kernel), List.mem_of_getElem? (i := 586) (by decide +kernel)⟩
theorem lw_p36 : lw_okq (⟨"CrossingDeskModel", "goYellow", "(I)V"⟩, 27) := ⟨⟨by decide +kernel, by decide +kernel⟩, List.mem_of_getElem? (i := 412) (by decide +kernel), List.mem_of_getElem? (i := 589) (by decide +kernel), List.mem_of_getElem? (i := 590) (by decide +kernel)⟩
theorem lw_p37 : lw_okq (⟨"CrossingDeskModel", "calledOf", "(II)I"⟩, 27) := ⟨⟨by decide +kernel, by decide +kernel⟩, List.mem_of_getElem? (i := 412) (by decide +kernel), List.mem_of_getElem? (i := 593) (by decide +kernel), List.mem_of_getElem? (i := 594) (by decide +kernel)⟩
theorem lw_p38 : lw_okq (⟨"CrossingDeskModel", "cross", "()V"⟩, 27) := ⟨⟨by decide +kernel, by decide +kernel⟩, List.mem_of_getElem? (i := 412) (by decide +kernel), List.mem_of_getElem? (i := 597) (by decide +kernel), List.mem_of_getElem? (i := 598) (by decide +kernel)⟩
theorem lw_p39 : lw_okq (⟨"CrossingDeskModel", "comesAlong", "(I)Z"⟩, 27) := ⟨⟨by decide +kernel, by decide +kernel⟩, List.mem_of_getElem? (i := 412) (by decide +kernel), List.mem_of_getElem? (i := 601) (by decide +kernel), List.mem_of_getElem? (i := 602) (by decide +kernel)⟩
theorem lw_p40 : lw_okq (⟨"CrossingDeskModel", "begin", "(I)V"⟩, 27) := ⟨⟨by decide +kernel, by decide +kernel⟩, List.mem_of_getElem? (i := 412) (by decide +kernel), List.mem_of_getElem? (i := 605) (by decide +kernel), List.mem_of_getElem? (i := 606) (by decide +kernel)⟩
theorem lw_p41 : lw_okq (⟨"CrossingDeskModel", "look", "()V"⟩, 27) := ⟨⟨by decide +kernel, by decide +kernel⟩, List.mem_of_getElem? (i := 412) (by decide +kernel), List.mem_of_getElem? (i := 609) (by decide +kernel), List.mem_of_getElem? (i := 610) (by decide +kernel)⟩
theorem lw_p42 : lw_okq (⟨"CrossingDeskModel", "lightOf", "(I)I"⟩, 27) := ⟨⟨by decide +kernel, by decide +kernel⟩, List.mem_of_getElem? (i := 412) (by decide +kernel), List.mem_of_getElem? (i := 613) (by decide +kernel), List.mem_of_getElem? (i := 614) (by decide +kernel)⟩
def lw_privs_3 : List (MethodName × Nat) := [(⟨"CrossingDeskModel", "goOn", "(I)V"⟩, 27), (⟨"CrossingDeskModel", "mayEnd", "(I)Z"⟩, 27), (⟨"CrossingDeskModel", "first", "(II)I"⟩, 27), (⟨"CrossingDeskModel", "second", "(II)I"⟩, 27), (⟨"CrossingDeskModel", "goYellow", "(I)V"⟩, 27), (⟨"CrossingDeskModel", "calledOf", "(II)I"⟩, 27), (⟨"CrossingDeskModel", "cross", "()V"⟩, 27), (⟨"CrossingDeskModel", "comesAlong", "(I)Z"⟩, 27), (⟨"CrossingDeskModel", "begin", "(I)V"⟩, 27), (⟨"CrossingDeskModel", "look", "()V"⟩, 27), (⟨"CrossingDeskModel", "lightOf", "(I)I"⟩, 27)]
theorem lw_r3 : ∀ q ∈ lw_privs_3, lw_okq q := List.forall_mem_cons.mpr ⟨lw_p32, List.forall_mem_cons.mpr ⟨lw_p33, List.forall_mem_cons.mpr ⟨lw_p34, List.forall_mem_cons.mpr ⟨lw_p35, List.forall_mem_cons.mpr ⟨lw_p36, List.forall_mem_cons.mpr ⟨lw_p37, List.forall_mem_cons.mpr ⟨lw_p38, List.forall_mem_cons.mpr ⟨lw_p39, List.forall_mem_cons.mpr ⟨lw_p40, List.forall_mem_cons.mpr ⟨lw_p41, List.forall_mem_cons.mpr ⟨lw_p42, fun _ h => absurd h List.not_mem_nil⟩⟩⟩⟩⟩⟩⟩⟩⟩⟩⟩
def lw_privs : List (MethodName × Nat) := lw_privs_1 ++ (lw_privs_2 ++ (lw_privs_3))
def lw_tbl : List Cond := k2_sels lw_privs ++ tables_1
theorem lw_privs_ok : ∀ q ∈ lw_privs, lw_okq q := by
  show ∀ q ∈ lw_privs_1 ++ (lw_privs_2 ++ (lw_privs_3)), lw_okq q
  exact List.forall_mem_append.mpr ⟨lw_r1, List.forall_mem_append.mpr ⟨lw_r2, lw_r3⟩⟩
end
section
def RX0 : String := "CrossingDesk$Guard"
def TX0 : u_T := fun k => match k with
  | 0 => ("CrossingDesk$Guard", "lastSeen", "[I", true)
  | 1 => ("CrossingDesk$Guard", "yellowLooks", "[I", true)
  | 2 => ("CrossingDesk$Guard", "wayWasBlocked", "Z", false)
  | _ => ("CrossingDesk$Guard", "fault", "I", false)
def tyX0 : Nat → FieldType := fun k => match k with
  | 0 => .array .int
  | 1 => .array .int
  | 2 => .boolean
  | _ => .int
theorem nmX0 : ∀ a, a < 4 → ∀ b, b < 4 → a ≠ b → (TX0 a).2.1 ≠ (TX0 b).2.1 := by decide +kernel
theorem tyX0_ok : ∀ k, k < 4 → parseFieldDescriptor (TX0 k).2.2.1 = some (tyX0 k) := by decide +kernel
abbrev cX0_init : ByteArray := prog_2_method_1_code
def yX0_init : MethodName := ⟨RX0, "<init>", "()V"⟩
abbrev cX0_forget : ByteArray := prog_2_method_2_code
def yX0_forget : MethodName := ⟨RX0, "forget", "()V"⟩
abbrev cX0_look : ByteArray := prog_2_method_3_code
def yX0_look : MethodName := ⟨RX0, "look", "([I)V"⟩
abbrev cX0_leastFault : ByteArray := prog_2_method_4_code
def yX0_leastFault : MethodName := ⟨RX0, "leastFault", "([IZ)I"⟩
abbrev cX0_hadShortYellow : ByteArray := prog_2_method_5_code
def yX0_hadShortYellow : MethodName := ⟨RX0, "hadShortYellow", "(I)Z"⟩
def RX1 : String := "CrossingDesk$Movement"
def TX1 : u_T := fun k => match k with
  | 0 => ("CrossingDesk$Movement", "times", "[I", true)
  | 1 => ("CrossingDesk$Movement", "modes", "I", false)
  | 2 => ("CrossingDesk$Movement", "car", "Z", false)
  | 3 => ("CrossingDesk$Movement", "remembered", "Z", false)
  | 4 => ("CrossingDesk$Movement", "pushed", "Z", false)
  | 5 => ("CrossingDesk$Movement", "waited", "I", false)
  | 6 => ("CrossingDesk$Movement", "longestWait", "I", false)
  | 7 => ("CrossingDesk$Movement", "greens", "I", false)
  | _ => ("CrossingDesk$Movement", "stuck", "I", false)
def tyX1 : Nat → FieldType := fun k => match k with
  | 0 => .array .int
  | 1 => .int
  | 2 => .boolean
  | 3 => .boolean
  | 4 => .boolean
  | 5 => .int
  | 6 => .int
  | 7 => .int
  | _ => .int
theorem nmX1 : ∀ a, a < 9 → ∀ b, b < 9 → a ≠ b → (TX1 a).2.1 ≠ (TX1 b).2.1 := by decide +kernel
theorem tyX1_ok : ∀ k, k < 9 → parseFieldDescriptor (TX1 k).2.2.1 = some (tyX1 k) := by decide +kernel
abbrev cX1_init : ByteArray := prog_3_method_1_code
def yX1_init : MethodName := ⟨RX1, "<init>", "()V"⟩
abbrev cX1_has : ByteArray := prog_3_method_2_code
def yX1_has : MethodName := ⟨RX1, "has", "(I)Z"⟩
abbrev cX1_isWanted : ByteArray := prog_3_method_3_code
def yX1_isWanted : MethodName := ⟨RX1, "isWanted", "()Z"⟩
abbrev cX1_comesAlong : ByteArray := prog_3_method_4_code
def yX1_comesAlong : MethodName := ⟨RX1, "comesAlong", "()Z"⟩
abbrev cX1_wouldWalk : ByteArray := prog_3_method_5_code
def yX1_wouldWalk : MethodName := ⟨RX1, "wouldWalk", "()Z"⟩
abbrev cX1_countWait : ByteArray := prog_3_method_6_code
def yX1_countWait : MethodName := ⟨RX1, "countWait", "(Z)V"⟩
abbrev cX1_beginGreen : ByteArray := prog_3_method_7_code
def yX1_beginGreen : MethodName := ⟨RX1, "beginGreen", "()V"⟩
def RX2 : String := "CrossingDesk$Ring"
def TX2 : u_T := fun k => match k with
  | 0 => ("CrossingDesk$Ring", "lowest", "I", true)
  | 1 => ("CrossingDesk$Ring", "exchanged", "[Z", true)
  | 2 => ("CrossingDesk$Ring", "movement", "I", false)
  | 3 => ("CrossingDesk$Ring", "phase", "I", false)
  | 4 => ("CrossingDesk$Ring", "age", "I", false)
  | 5 => ("CrossingDesk$Ring", "left", "I", false)
  | 6 => ("CrossingDesk$Ring", "pressure", "I", false)
  | 7 => ("CrossingDesk$Ring", "next", "I", false)
  | 8 => ("CrossingDesk$Ring", "walkLeft", "I", false)
  | _ => ("CrossingDesk$Ring", "clearingLeft", "I", false)
def tyX2 : Nat → FieldType := fun k => match k with
  | 0 => .int
  | 1 => .array .boolean
  | 2 => .int
  | 3 => .int
  | 4 => .int
  | 5 => .int
  | 6 => .int
  | 7 => .int
  | 8 => .int
  | _ => .int
theorem nmX2 : ∀ a, a < 10 → ∀ b, b < 10 → a ≠ b → (TX2 a).2.1 ≠ (TX2 b).2.1 := by decide +kernel
theorem tyX2_ok : ∀ k, k < 10 → parseFieldDescriptor (TX2 k).2.2.1 = some (tyX2 k) := by decide +kernel
abbrev cX2_init : ByteArray := prog_4_method_1_code
def yX2_init : MethodName := ⟨RX2, "<init>", "(I)V"⟩
abbrev cX2_first : ByteArray := prog_4_method_2_code
def yX2_first : MethodName := ⟨RX2, "first", "(I)I"⟩
abbrev cX2_second : ByteArray := prog_4_method_3_code
def yX2_second : MethodName := ⟨RX2, "second", "(I)I"⟩
abbrev cX2_isBusyWith : ByteArray := prog_4_method_4_code
def yX2_isBusyWith : MethodName := ⟨RX2, "isBusyWith", "(I)Z"⟩
abbrev cX2_walking : ByteArray := prog_4_method_5_code
def yX2_walking : MethodName := ⟨RX2, "walking", "()I"⟩
abbrev cX2_mayEndGreen : ByteArray := prog_4_method_6_code
def yX2_mayEndGreen : MethodName := ⟨RX2, "mayEndGreen", "([I)Z"⟩
abbrev cX2_beginGreen : ByteArray := prog_4_method_7_code
def yX2_beginGreen : MethodName := ⟨RX2, "beginGreen", "(LCrossingDesk$Movement;)V"⟩
abbrev cX2_advanceGreen : ByteArray := prog_4_method_8_code
def yX2_advanceGreen : MethodName := ⟨RX2, "advanceGreen", "(LCrossingDesk$Movement;Z)V"⟩
abbrev cX2_endGreen : ByteArray := prog_4_method_9_code
def yX2_endGreen : MethodName := ⟨RX2, "endGreen", "(I)V"⟩
abbrev cX2_advanceEnding : ByteArray := prog_4_method_10_code
def yX2_advanceEnding : MethodName := ⟨RX2, "advanceEnding", "(LCrossingDesk$Movement;)V"⟩
abbrev cX2_goDark : ByteArray := prog_4_method_11_code
def yX2_goDark : MethodName := ⟨RX2, "goDark", "()V"⟩
abbrev cX2_enter : ByteArray := prog_4_method_12_code
def yX2_enter : MethodName := ⟨RX2, "enter", "(I)V"⟩
def RX3 : String := "CrossingDesk"
def TX3 : u_T := fun k => match k with
  | 0 => ("CrossingDesk", "movements", "[LCrossingDesk$Movement;", true)
  | 1 => ("CrossingDesk", "rings", "[LCrossingDesk$Ring;", true)
  | 2 => ("CrossingDesk", "guard", "LCrossingDesk$Guard;", true)
  | 3 => ("CrossingDesk", "lights", "[I", true)
  | 4 => ("CrossingDesk", "time", "I", false)
  | 5 => ("CrossingDesk", "side", "I", false)
  | 6 => ("CrossingDesk", "crossing", "Z", false)
  | _ => ("CrossingDesk", "crossings", "I", false)
def tyX3 : Nat → FieldType := fun k => match k with
  | 0 => .array (.object "CrossingDesk$Movement")
  | 1 => .array (.object "CrossingDesk$Ring")
  | 2 => .object "CrossingDesk$Guard"
  | 3 => .array .int
  | 4 => .int
  | 5 => .int
  | 6 => .boolean
  | _ => .int
theorem nmX3 : ∀ a, a < 8 → ∀ b, b < 8 → a ≠ b → (TX3 a).2.1 ≠ (TX3 b).2.1 := by decide +kernel
theorem tyX3_ok : ∀ k, k < 8 → parseFieldDescriptor (TX3 k).2.2.1 = some (tyX3 k) := by decide +kernel
abbrev cX3_init : ByteArray := prog_1_method_1_code
def yX3_init : MethodName := ⟨RX3, "<init>", "()V"⟩
abbrev cX3_set : ByteArray := prog_1_method_2_code
def yX3_set : MethodName := ⟨RX3, "set", "(III)I"⟩
abbrev cX3_mode : ByteArray := prog_1_method_3_code
def yX3_mode : MethodName := ⟨RX3, "mode", "(II)I"⟩
abbrev cX3_exchange : ByteArray := prog_1_method_4_code
def yX3_exchange : MethodName := ⟨RX3, "exchange", "(II)I"⟩
abbrev cX3_car : ByteArray := prog_1_method_5_code
def yX3_car : MethodName := ⟨RX3, "car", "(II)I"⟩
abbrev cX3_push : ByteArray := prog_1_method_6_code
def yX3_push : MethodName := ⟨RX3, "push", "(I)I"⟩
abbrev cX3_stick : ByteArray := prog_1_method_7_code
def yX3_stick : MethodName := ⟨RX3, "stick", "(II)I"⟩
abbrev cX3_run : ByteArray := prog_1_method_8_code
def yX3_run : MethodName := ⟨RX3, "run", "(I)I"⟩
abbrev cX3_restart : ByteArray := prog_1_method_9_code
def yX3_restart : MethodName := ⟨RX3, "restart", "()I"⟩
abbrev cX3_of : ByteArray := prog_1_method_10_code
def yX3_of : MethodName := ⟨RX3, "of", "(II)I"⟩
abbrev cX3_ring : ByteArray := prog_1_method_11_code
def yX3_ring : MethodName := ⟨RX3, "ring", "(II)I"⟩
abbrev cX3_state : ByteArray := prog_1_method_12_code
def yX3_state : MethodName := ⟨RX3, "state", "(I)I"⟩
abbrev cX3_check : ByteArray := prog_1_method_13_code
def yX3_check : MethodName := ⟨RX3, "check", "()I"⟩
abbrev cX3_tick : ByteArray := prog_1_method_14_code
def yX3_tick : MethodName := ⟨RX3, "tick", "()I"⟩
abbrev cX3_countWaits : ByteArray := prog_1_method_15_code
def yX3_countWaits : MethodName := ⟨RX3, "countWaits", "()V"⟩
abbrev cX3_advanceRings : ByteArray := prog_1_method_16_code
def yX3_advanceRings : MethodName := ⟨RX3, "advanceRings", "()V"⟩
abbrev cX3_goOnWithinSide : ByteArray := prog_1_method_17_code
def yX3_goOnWithinSide : MethodName := ⟨RX3, "goOnWithinSide", "(LCrossingDesk$Ring;)V"⟩
abbrev cX3_leaveSideOrTurnBack : ByteArray := prog_1_method_18_code
def yX3_leaveSideOrTurnBack : MethodName := ⟨RX3, "leaveSideOrTurnBack", "()V"⟩
abbrev cX3_turnBackToFirst : ByteArray := prog_1_method_19_code
def yX3_turnBackToFirst : MethodName := ⟨RX3, "turnBackToFirst", "(LCrossingDesk$Ring;)V"⟩
abbrev cX3_beginCrossing : ByteArray := prog_1_method_20_code
def yX3_beginCrossing : MethodName := ⟨RX3, "beginCrossing", "()V"⟩
abbrev cX3_endCrossing : ByteArray := prog_1_method_21_code
def yX3_endCrossing : MethodName := ⟨RX3, "endCrossing", "()V"⟩
abbrev cX3_beginGreens : ByteArray := prog_1_method_22_code
def yX3_beginGreens : MethodName := ⟨RX3, "beginGreens", "()I"⟩
abbrev cX3_showLightsToGuard : ByteArray := prog_1_method_23_code
def yX3_showLightsToGuard : MethodName := ⟨RX3, "showLightsToGuard", "()V"⟩
abbrev cX3_calledOn : ByteArray := prog_1_method_24_code
def yX3_calledOn : MethodName := ⟨RX3, "calledOn", "(LCrossingDesk$Ring;I)I"⟩
abbrev cX3_comingAlongOn : ByteArray := prog_1_method_25_code
def yX3_comingAlongOn : MethodName := ⟨RX3, "comingAlongOn", "(LCrossingDesk$Ring;I)I"⟩
abbrev cX3_isAnyCalledOn : ByteArray := prog_1_method_26_code
def yX3_isAnyCalledOn : MethodName := ⟨RX3, "isAnyCalledOn", "(I)Z"⟩
abbrev cX3_isCalled : ByteArray := prog_1_method_27_code
def yX3_isCalled : MethodName := ⟨RX3, "isCalled", "(I)Z"⟩
abbrev cX3_isGreen : ByteArray := prog_1_method_28_code
def yX3_isGreen : MethodName := ⟨RX3, "isGreen", "(I)Z"⟩
abbrev cX3_mayEnd : ByteArray := prog_1_method_29_code
def yX3_mayEnd : MethodName := ⟨RX3, "mayEnd", "(LCrossingDesk$Ring;)Z"⟩
abbrev cX3_isReady : ByteArray := prog_1_method_30_code
def yX3_isReady : MethodName := ⟨RX3, "isReady", "(LCrossingDesk$Ring;)Z"⟩
abbrev cX3_isFlashing : ByteArray := prog_1_method_31_code
def yX3_isFlashing : MethodName := ⟨RX3, "isFlashing", "()Z"⟩
abbrev cX3_toldLight : ByteArray := prog_1_method_32_code
def yX3_toldLight : MethodName := ⟨RX3, "toldLight", "(I)I"⟩
abbrev cX3_shownLight : ByteArray := prog_1_method_33_code
def yX3_shownLight : MethodName := ⟨RX3, "shownLight", "(I)I"⟩
abbrev cX3_isIdle : ByteArray := prog_1_method_34_code
def yX3_isIdle : MethodName := ⟨RX3, "isIdle", "(LCrossingDesk$Ring;)Z"⟩
abbrev cX3_isMovement : ByteArray := prog_1_method_35_code
def yX3_isMovement : MethodName := ⟨RX3, "isMovement", "(I)Z"⟩
abbrev cX3_isRing : ByteArray := prog_1_method_36_code
def yX3_isRing : MethodName := ⟨RX3, "isRing", "(I)Z"⟩
abbrev cX3_number : ByteArray := prog_1_method_37_code
def yX3_number : MethodName := ⟨RX3, "number", "(Z)I"⟩
abbrev cX3_ringOf : ByteArray := prog_1_method_38_code
def yX3_ringOf : MethodName := ⟨RX3, "ringOf", "(I)I"⟩
abbrev cX3_sideOf : ByteArray := prog_1_method_39_code
def yX3_sideOf : MethodName := ⟨RX3, "sideOf", "(I)I"⟩
abbrev cX3_areInWay : ByteArray := prog_1_method_40_code
def yX3_areInWay : MethodName := ⟨RX3, "areInWay", "(II)Z"⟩
abbrev cX3_anyInTheWay : ByteArray := prog_1_method_41_code
def yX3_anyInTheWay : MethodName := ⟨RX3, "anyInTheWay", "([I)Z"⟩
def RX4 : String := "CrossingDeskModel"
def TX4 : u_T := fun k => match k with
  | 0 => ("CrossingDeskModel", "thrown", "I", false)
  | 1 => ("CrossingDeskModel", "times", "[I", true)
  | 2 => ("CrossingDeskModel", "modes", "[I", true)
  | 3 => ("CrossingDeskModel", "cars", "[Z", true)
  | 4 => ("CrossingDeskModel", "pushes", "[Z", true)
  | 5 => ("CrossingDeskModel", "remembered", "[Z", true)
  | 6 => ("CrossingDeskModel", "waited", "[I", true)
  | 7 => ("CrossingDeskModel", "longest", "[I", true)
  | 8 => ("CrossingDeskModel", "greens", "[I", true)
  | 9 => ("CrossingDeskModel", "stuck", "[I", true)
  | 10 => ("CrossingDeskModel", "exchanged", "[Z", true)
  | 11 => ("CrossingDeskModel", "now", "[I", true)
  | 12 => ("CrossingDeskModel", "next", "[I", true)
  | 13 => ("CrossingDeskModel", "phase", "[I", true)
  | 14 => ("CrossingDeskModel", "age", "[I", true)
  | 15 => ("CrossingDeskModel", "left", "[I", true)
  | 16 => ("CrossingDeskModel", "pressure", "[I", true)
  | 17 => ("CrossingDeskModel", "walking", "[I", true)
  | 18 => ("CrossingDeskModel", "clearing", "[I", true)
  | 19 => ("CrossingDeskModel", "time", "I", false)
  | 20 => ("CrossingDeskModel", "side", "I", false)
  | 21 => ("CrossingDeskModel", "crossing", "Z", false)
  | 22 => ("CrossingDeskModel", "crossings", "I", false)
  | 23 => ("CrossingDeskModel", "wrong", "I", false)
  | 24 => ("CrossingDeskModel", "seen", "[I", true)
  | 25 => ("CrossingDeskModel", "yellows", "[I", true)
  | _ => ("CrossingDeskModel", "clashed", "Z", false)
def tyX4 : Nat → FieldType := fun k => match k with
  | 0 => .int
  | 1 => .array .int
  | 2 => .array .int
  | 3 => .array .boolean
  | 4 => .array .boolean
  | 5 => .array .boolean
  | 6 => .array .int
  | 7 => .array .int
  | 8 => .array .int
  | 9 => .array .int
  | 10 => .array .boolean
  | 11 => .array .int
  | 12 => .array .int
  | 13 => .array .int
  | 14 => .array .int
  | 15 => .array .int
  | 16 => .array .int
  | 17 => .array .int
  | 18 => .array .int
  | 19 => .int
  | 20 => .int
  | 21 => .boolean
  | 22 => .int
  | 23 => .int
  | 24 => .array .int
  | 25 => .array .int
  | _ => .boolean
theorem nmX4 : ∀ a, a < 27 → ∀ b, b < 27 → a ≠ b → (TX4 a).2.1 ≠ (TX4 b).2.1 := by decide +kernel
theorem tyX4_ok : ∀ k, k < 27 → parseFieldDescriptor (TX4 k).2.2.1 = some (tyX4 k) := by decide +kernel
abbrev cX4_init : ByteArray := prog_6_method_1_code
def yX4_init : MethodName := ⟨RX4, "<init>", "()V"⟩
abbrev cX4_isMovement : ByteArray := prog_6_method_3_code
def yX4_isMovement : MethodName := ⟨RX4, "isMovement", "(I)Z"⟩
abbrev cX4_timeOf : ByteArray := prog_6_method_4_code
def yX4_timeOf : MethodName := ⟨RX4, "timeOf", "(II)I"⟩
abbrev cX4_has : ByteArray := prog_6_method_5_code
def yX4_has : MethodName := ⟨RX4, "has", "(II)Z"⟩
abbrev cX4_isGreen : ByteArray := prog_6_method_6_code
def yX4_isGreen : MethodName := ⟨RX4, "isGreen", "(I)Z"⟩
abbrev cX4_isCalled : ByteArray := prog_6_method_7_code
def yX4_isCalled : MethodName := ⟨RX4, "isCalled", "(I)Z"⟩
abbrev cX4_fits : ByteArray := prog_6_method_8_code
def yX4_fits : MethodName := ⟨RX4, "fits", "(II)Z"⟩
abbrev cX4_set : ByteArray := prog_6_method_9_code
def yX4_set : MethodName := ⟨RX4, "set", "(III)I"⟩
abbrev cX4_mode : ByteArray := prog_6_method_10_code
def yX4_mode : MethodName := ⟨RX4, "mode", "(II)I"⟩
abbrev cX4_isOf : ByteArray := prog_6_method_11_code
def yX4_isOf : MethodName := ⟨RX4, "isOf", "(III)Z"⟩
abbrev cX4_exchange : ByteArray := prog_6_method_12_code
def yX4_exchange : MethodName := ⟨RX4, "exchange", "(II)I"⟩
abbrev cX4_car : ByteArray := prog_6_method_13_code
def yX4_car : MethodName := ⟨RX4, "car", "(II)I"⟩
abbrev cX4_push : ByteArray := prog_6_method_14_code
def yX4_push : MethodName := ⟨RX4, "push", "(I)I"⟩
abbrev cX4_stick : ByteArray := prog_6_method_15_code
def yX4_stick : MethodName := ⟨RX4, "stick", "(II)I"⟩
abbrev cX4_first : ByteArray := prog_6_method_16_code
def yX4_first : MethodName := ⟨RX4, "first", "(II)I"⟩
abbrev cX4_second : ByteArray := prog_6_method_17_code
def yX4_second : MethodName := ⟨RX4, "second", "(II)I"⟩
abbrev cX4_calledOf : ByteArray := prog_6_method_18_code
def yX4_calledOf : MethodName := ⟨RX4, "calledOf", "(II)I"⟩
abbrev cX4_wait0 : ByteArray := prog_6_method_19_code
def yX4_wait0 : MethodName := ⟨RX4, "wait0", "()V"⟩
abbrev cX4_goDark : ByteArray := prog_6_method_20_code
def yX4_goDark : MethodName := ⟨RX4, "goDark", "(I)V"⟩
abbrev cX4_ageRing : ByteArray := prog_6_method_21_code
def yX4_ageRing : MethodName := ⟨RX4, "ageRing", "(I)V"⟩
abbrev cX4_mayEnd : ByteArray := prog_6_method_22_code
def yX4_mayEnd : MethodName := ⟨RX4, "mayEnd", "(I)Z"⟩
abbrev cX4_goYellow : ByteArray := prog_6_method_23_code
def yX4_goYellow : MethodName := ⟨RX4, "goYellow", "(I)V"⟩
abbrev cX4_goOn : ByteArray := prog_6_method_24_code
def yX4_goOn : MethodName := ⟨RX4, "goOn", "(I)V"⟩
abbrev cX4_cross : ByteArray := prog_6_method_25_code
def yX4_cross : MethodName := ⟨RX4, "cross", "()V"⟩
abbrev cX4_comesAlong : ByteArray := prog_6_method_26_code
def yX4_comesAlong : MethodName := ⟨RX4, "comesAlong", "(I)Z"⟩
abbrev cX4_begin : ByteArray := prog_6_method_27_code
def yX4_begin : MethodName := ⟨RX4, "begin", "(I)V"⟩
abbrev cX4_tick : ByteArray := prog_6_method_28_code
def yX4_tick : MethodName := ⟨RX4, "tick", "()V"⟩
abbrev cX4_lightOf : ByteArray := prog_6_method_29_code
def yX4_lightOf : MethodName := ⟨RX4, "lightOf", "(I)I"⟩
abbrev cX4_areInWay : ByteArray := prog_6_method_30_code
def yX4_areInWay : MethodName := ⟨RX4, "areInWay", "(II)Z"⟩
abbrev cX4_look : ByteArray := prog_6_method_31_code
def yX4_look : MethodName := ⟨RX4, "look", "()V"⟩
abbrev cX4_allGreens : ByteArray := prog_6_method_32_code
def yX4_allGreens : MethodName := ⟨RX4, "allGreens", "()I"⟩
abbrev cX4_run : ByteArray := prog_6_method_33_code
def yX4_run : MethodName := ⟨RX4, "run", "(I)I"⟩
abbrev cX4_restart : ByteArray := prog_6_method_34_code
def yX4_restart : MethodName := ⟨RX4, "restart", "()I"⟩
abbrev cX4_of : ByteArray := prog_6_method_35_code
def yX4_of : MethodName := ⟨RX4, "of", "(II)I"⟩
abbrev cX4_ring : ByteArray := prog_6_method_36_code
def yX4_ring : MethodName := ⟨RX4, "ring", "(II)I"⟩
abbrev cX4_state : ByteArray := prog_6_method_37_code
def yX4_state : MethodName := ⟨RX4, "state", "(I)I"⟩
abbrev cX4_check : ByteArray := prog_6_method_38_code
def yX4_check : MethodName := ⟨RX4, "check", "()I"⟩
def RJ9 : String := "java/lang/Math"
abbrev cJ9_max_7cf53 : ByteArray := prog_8_method_65_code
def yJ9_max_7cf53 : MethodName := ⟨RJ9, "max", "(II)I"⟩
def RL : String := "CrossingDeskLaw"
abbrev cL_law : ByteArray := code
def yL_law : MethodName := ⟨RL, "law", "([I)Z"⟩
end
section
-- J: a walk's judgement with the heap and the locals' array hidden: whatever heap holds the world of u, whatever array holds the listed locals
def jk_X {S : Type} (D : va_G) (cl : List vw_C) (wd : S → va_W) (A : Nat → Prop) (H0 : Heap) (u : S) (H : Heap) (locs : List Loc) : Prop := va_P D cl (wd u) H ∧ va_D A (wd u) ∧ va_S A H0 H locs
def JJ {S : Type} (p : Program) (l : Launch) (e : Env) (R : Room) (s : State) (m : MethodId) (args : Array Value) (below : List Frame) (meth : Method) (c : Code) (cells slots : Nat) (nL : Nat) (D : va_G) (cl : List vw_C) (wd : S → va_W) (A : Nat → Prop) (Q : State → Prop) (pc : Nat) (lv : List (Nat × Value)) (u : S) (st : List Value) : Prop :=
  ∀ (H : Heap) (locs : List Loc) (ls : Array Slot), jk_X D cl wd A s.heap u H locs → lv_has ls nL lv → W p l e R s m args below meth c H locs cells slots Q (F0 m pc ls st)
/-- what the start says of the class's static arrays, and of the nest mate's call: it holds all through -/
def jk_lo (j : Nat) : Int32 := match j with
  | 0 => 1
  | 1 => 0
  | 2 => 1
  | 3 => 3
  | 4 => 0
  | 5 => 0
  | _ => 0
def jk_hi (j : Nat) : Int32 := match j with
  | 0 => 200
  | 1 => 100
  | 2 => 500
  | 3 => 50
  | 4 => 50
  | 5 => 100
  | _ => 200
def jk_N (A : Nat → Prop) (U : State) : Prop := va_Nw (.methodLinkNest RX0 26 yX3_anyInTheWay RX3) U ∧ (∃ t : Nat, va_Z RX3 "LOWEST" "[I" (.ref t) A U U.heap ∧ va_T .int t 7 (fun j => .int (jk_lo j)) A U U.heap) ∧ ∃ t : Nat, va_Z RX3 "HIGHEST" "[I" (.ref t) A U U.heap ∧ va_T .int t 7 (fun j => .int (jk_hi j)) A U U.heap
theorem jk_N.narrow {A B : Nat → Prop} {U : State} (h : jk_N A U) (hAB : ∀ q, B q → A q) : jk_N B U := by
  obtain ⟨h1, ⟨t, h2, h3⟩, t', h4, h5⟩ := h
  exact ⟨h1, ⟨t, h2.narrow hAB, h3.narrow hAB⟩, t', h4.narrow hAB, h5.narrow hAB⟩
theorem jk_N.at {A : Nat → Prop} {s U : State} {locs : List Loc} (h : jk_N A s) (hS : va_S A s.heap U.heap locs) (hW : s.WarmedH U.vm) : jk_N A U := by
  obtain ⟨h1, ⟨t, h2, h3⟩, t', h4, h5⟩ := h
  exact ⟨h1.warmM hW, ⟨t, (h2.moved hW.alike).kept hS.2.1, (h3.moved hW.alike).kept hS.2.1⟩, t', (h4.moved hW.alike).kept hS.2.1, (h5.moved hW.alike).kept hS.2.1⟩
theorem jk_N.calling {A : Nat → Prop} {U : State} {g : JFrame} {mk : MethodId} {a : Array Value} (h : jk_N A U) : jk_N A (U.calling g mk a) := by
  obtain ⟨h1, ⟨t, h2, h3⟩, t', h4, h5⟩ := h
  exact ⟨h1.same rfl rfl, ⟨t, h2.moved (Vm.Alike.refl U.vm), h3.moved (Vm.Alike.refl U.vm)⟩, t', h4.moved (Vm.Alike.refl U.vm), h5.moved (Vm.Alike.refl U.vm)⟩
def jk_C (p : Program) (R : Room) (s : State) (m : MethodId) (args : Array Value) (c : Code) (cells slots : Nat) (cc : ByteArray) (nL : Nat) (own : String) (Ts : List Cond) (D : va_G) (cl : List vw_C) (tys : List (ClassId × FieldType)) (A : Nat → Prop) : Prop :=
  p.tables.exec = Jvm.exec ∧ c.code = cc ∧ c.maxLocals = nL ∧ s.vm.findClass own = some m.cls ∧ (∀ w ∈ Ts, w.before args s = true) ∧ va_K D cl tys s ∧ (∀ q, s.heap.size ≤ q → A q) ∧ cells ≤ R.cells ∧ slots ≤ R.slots ∧ jk_N A s
/-- a class's table, for reading and writing its fields -/
def jk_F (cl : List vw_C) (Ts : List Cond) (ci : Nat) (Cn : String) (T : u_T) (N : Nat) (ty0 : Nat → FieldType) : Prop :=
  cl[ci]? = some (Cn, T, N) ∧ (∀ k, k < N → parseFieldDescriptor (T k).2.2.1 = some (ty0 k)) ∧ (∀ a, a < N → ∀ b, b < N → a ≠ b → (T a).2.1 ≠ (T b).2.1) ∧ ∀ w ∈ u_ws Cn T N, w ∈ Ts
theorem jk_self {x : Int32} {n : Nat} (h : vp_in x n) (hn : n < 2 ^ 31) : x = nI x.toNatClampNeg := by
  obtain ⟨j, hj, rfl⟩ := vp_in_of h hn
  rw [nI_clamp (Nat.lt_trans hj hn)]
section JK
variable {S : Type} {p : Program} {l : Launch} {e : Env} {R : Room} {s : State} {m : MethodId} {args : Array Value} {below : List Frame} {meth : Method} {c : Code} {cells slots : Nat} {cc : ByteArray} {nL : Nat} {own : String} {Ts : List Cond} {D : va_G} {cl : List vw_C} {tys : List (ClassId × FieldType)} {wd : S → va_W} {A : Nat → Prop} {Q : State → Prop} {pc : Nat} {lv : List (Nat × Value)} {u : S} {st : List Value}
theorem j_iconst (C : jk_C p R s m args c cells slots cc nL own Ts D cl tys A) {n : Int} (v : Int32) (d : decode cc pc = .ok (.iconst n, 1)) (hv : Int32.ofInt n = v) (k : JJ p l e R s m args below meth c cells slots nL D cl wd A Q (pc + 1) lv u (.int v :: st)) : JJ p l e R s m args below meth c cells slots nL D cl wd A Q pc lv u st :=
  fun H locs ls X hl => lv_iconst C.1 C.2.1 d hv (k H locs ls X hl)
theorem j_bipush (C : jk_C p R s m args c cells slots cc nL own Ts D cl tys A) {n : Int} (v : Int32) (d : decode cc pc = .ok (.bipush n, 2)) (hv : (Int8.ofInt n).toInt32 = v) (k : JJ p l e R s m args below meth c cells slots nL D cl wd A Q (pc + 2) lv u (.int v :: st)) : JJ p l e R s m args below meth c cells slots nL D cl wd A Q pc lv u st :=
  fun H locs ls X hl => lv_bipush C.1 C.2.1 d hv (k H locs ls X hl)
theorem j_sipush (C : jk_C p R s m args c cells slots cc nL own Ts D cl tys A) {n : Int} (v : Int32) (d : decode cc pc = .ok (.sipush n, 3)) (hv : (Int16.ofInt n).toInt32 = v) (k : JJ p l e R s m args below meth c cells slots nL D cl wd A Q (pc + 3) lv u (.int v :: st)) : JJ p l e R s m args below meth c cells slots nL D cl wd A Q pc lv u st :=
  fun H locs ls X hl => lv_sipush C.1 C.2.1 d hv (k H locs ls X hl)
theorem j_iload_n (C : jk_C p R s m args c cells slots cc nL own Ts D cl tys A) {k : Fin 4} {x : Int32} (q : Nat) (d : decode cc pc = .ok (.iload_n k, 1)) (h : lv[q]? = some ((k : Nat), .int x)) (kk : JJ p l e R s m args below meth c cells slots nL D cl wd A Q (pc + 1) lv u (.int x :: st)) : JJ p l e R s m args below meth c cells slots nL D cl wd A Q pc lv u st :=
  fun H locs ls X hl => lv_iload_n C.1 C.2.1 d rfl (lv_at hl q h) (kk H locs ls X hl)
theorem j_iload (C : jk_C p R s m args c cells slots cc nL own Ts D cl tys A) {i : Nat} {x : Int32} (q : Nat) (d : decode cc pc = .ok (.iload i, 2)) (h : lv[q]? = some (i, .int x)) (kk : JJ p l e R s m args below meth c cells slots nL D cl wd A Q (pc + 2) lv u (.int x :: st)) : JJ p l e R s m args below meth c cells slots nL D cl wd A Q pc lv u st :=
  fun H locs ls X hl => lv_iload C.1 C.2.1 d (lv_at hl q h) (kk H locs ls X hl)
theorem j_aload_n (C : jk_C p R s m args c cells slots cc nL own Ts D cl tys A) {k : Fin 4} {x : Nat} (q : Nat) (d : decode cc pc = .ok (.aload_n k, 1)) (h : lv[q]? = some ((k : Nat), .ref x)) (kk : JJ p l e R s m args below meth c cells slots nL D cl wd A Q (pc + 1) lv u (.ref x :: st)) : JJ p l e R s m args below meth c cells slots nL D cl wd A Q pc lv u st :=
  fun H locs ls X hl => lv_aload_n C.1 C.2.1 d rfl (lv_at hl q h) (kk H locs ls X hl)
theorem j_aload (C : jk_C p R s m args c cells slots cc nL own Ts D cl tys A) {i : Nat} {x : Nat} (q : Nat) (d : decode cc pc = .ok (.aload i, 2)) (h : lv[q]? = some (i, .ref x)) (kk : JJ p l e R s m args below meth c cells slots nL D cl wd A Q (pc + 2) lv u (.ref x :: st)) : JJ p l e R s m args below meth c cells slots nL D cl wd A Q pc lv u st :=
  fun H locs ls X hl => lv_aload C.1 C.2.1 d (lv_at hl q h) (kk H locs ls X hl)
theorem j_istore_n (C : jk_C p R s m args c cells slots cc nL own Ts D cl tys A) {k : Fin 4} {x : Int32} {lv' : List (Nat × Value)} (d : decode cc pc = .ok (.istore_n k, 1)) (hn : (k : Nat) < nL) (hl' : ((k : Nat), Value.int x) :: lv.filter (fun q => !(q.1 == (k : Nat)) && !(q.1 + 1 == (k : Nat) && q.2.category == 2)) = lv') (kk : JJ p l e R s m args below meth c cells slots nL D cl wd A Q (pc + 1) lv' u st) : JJ p l e R s m args below meth c cells slots nL D cl wd A Q pc lv u (.int x :: st) :=
  fun H locs _ X hl => lv_istore_n C.1 C.2.1 d rfl hl hn hl' (fun ls hl => kk H locs ls X hl)
theorem j_istore (C : jk_C p R s m args c cells slots cc nL own Ts D cl tys A) {i : Nat} {x : Int32} {lv' : List (Nat × Value)} (d : decode cc pc = .ok (.istore i, 2)) (hn : i < nL) (hl' : (i, Value.int x) :: lv.filter (fun q => !(q.1 == i) && !(q.1 + 1 == i && q.2.category == 2)) = lv') (kk : JJ p l e R s m args below meth c cells slots nL D cl wd A Q (pc + 2) lv' u st) : JJ p l e R s m args below meth c cells slots nL D cl wd A Q pc lv u (.int x :: st) :=
  fun H locs _ X hl => lv_istore C.1 C.2.1 d hl hn hl' (fun ls hl => kk H locs ls X hl)
theorem j_astore_n (C : jk_C p R s m args c cells slots cc nL own Ts D cl tys A) {k : Fin 4} {x : Nat} {lv' : List (Nat × Value)} (d : decode cc pc = .ok (.astore_n k, 1)) (hn : (k : Nat) < nL) (hl' : ((k : Nat), Value.ref x) :: lv.filter (fun q => !(q.1 == (k : Nat)) && !(q.1 + 1 == (k : Nat) && q.2.category == 2)) = lv') (kk : JJ p l e R s m args below meth c cells slots nL D cl wd A Q (pc + 1) lv' u st) : JJ p l e R s m args below meth c cells slots nL D cl wd A Q pc lv u (.ref x :: st) :=
  fun H locs _ X hl => lv_astore_n C.1 C.2.1 d rfl hl hn hl' (fun ls hl => kk H locs ls X hl)
theorem j_astore (C : jk_C p R s m args c cells slots cc nL own Ts D cl tys A) {i : Nat} {x : Nat} {lv' : List (Nat × Value)} (d : decode cc pc = .ok (.astore i, 2)) (hn : i < nL) (hl' : (i, Value.ref x) :: lv.filter (fun q => !(q.1 == i) && !(q.1 + 1 == i && q.2.category == 2)) = lv') (kk : JJ p l e R s m args below meth c cells slots nL D cl wd A Q (pc + 2) lv' u st) : JJ p l e R s m args below meth c cells slots nL D cl wd A Q pc lv u (.ref x :: st) :=
  fun H locs _ X hl => lv_astore C.1 C.2.1 d hl hn hl' (fun ls hl => kk H locs ls X hl)
theorem j_iinc (C : jk_C p R s m args c cells slots cc nL own Ts D cl tys A) {i : Nat} {n : Int} {x : Int32} (q : Nat) (v : Int32) {lv' : List (Nat × Value)} (d : decode cc pc = .ok (.iinc i n, 3)) (h : lv[q]? = some (i, .int x)) (hv : x + Int32.ofInt n = v) (hn : i < nL) (hl' : (i, Value.int v) :: lv.filter (fun q => !(q.1 == i) && !(q.1 + 1 == i && q.2.category == 2)) = lv') (kk : JJ p l e R s m args below meth c cells slots nL D cl wd A Q (pc + 3) lv' u st) : JJ p l e R s m args below meth c cells slots nL D cl wd A Q pc lv u st :=
  fun H locs _ X hl => lv_iinc C.1 C.2.1 d hl h hv hn hl' (fun ls hl => kk H locs ls X hl)
theorem j_iadd (C : jk_C p R s m args c cells slots cc nL own Ts D cl tys A) {x y : Int32} (d : decode cc pc = .ok (.iadd, 1)) (kk : JJ p l e R s m args below meth c cells slots nL D cl wd A Q (pc + 1) lv u (.int (x + y) :: st)) : JJ p l e R s m args below meth c cells slots nL D cl wd A Q pc lv u (.int y :: .int x :: st) :=
  fun H locs ls X hl => lv_iadd C.1 C.2.1 d (kk H locs ls X hl)
theorem j_isub (C : jk_C p R s m args c cells slots cc nL own Ts D cl tys A) {x y : Int32} (d : decode cc pc = .ok (.isub, 1)) (kk : JJ p l e R s m args below meth c cells slots nL D cl wd A Q (pc + 1) lv u (.int (x - y) :: st)) : JJ p l e R s m args below meth c cells slots nL D cl wd A Q pc lv u (.int y :: .int x :: st) :=
  fun H locs ls X hl => lv_isub C.1 C.2.1 d (kk H locs ls X hl)
theorem j_imul (C : jk_C p R s m args c cells slots cc nL own Ts D cl tys A) {x y : Int32} (d : decode cc pc = .ok (.imul, 1)) (kk : JJ p l e R s m args below meth c cells slots nL D cl wd A Q (pc + 1) lv u (.int (x * y) :: st)) : JJ p l e R s m args below meth c cells slots nL D cl wd A Q pc lv u (.int y :: .int x :: st) :=
  fun H locs ls X hl => lv_imul C.1 C.2.1 d (kk H locs ls X hl)
theorem j_iand (C : jk_C p R s m args c cells slots cc nL own Ts D cl tys A) {x y : Int32} (d : decode cc pc = .ok (.iand, 1)) (kk : JJ p l e R s m args below meth c cells slots nL D cl wd A Q (pc + 1) lv u (.int (x &&& y) :: st)) : JJ p l e R s m args below meth c cells slots nL D cl wd A Q pc lv u (.int y :: .int x :: st) :=
  fun H locs ls X hl => lv_iand C.1 C.2.1 d (kk H locs ls X hl)
theorem j_ior (C : jk_C p R s m args c cells slots cc nL own Ts D cl tys A) {x y : Int32} (d : decode cc pc = .ok (.ior, 1)) (kk : JJ p l e R s m args below meth c cells slots nL D cl wd A Q (pc + 1) lv u (.int (x ||| y) :: st)) : JJ p l e R s m args below meth c cells slots nL D cl wd A Q pc lv u (.int y :: .int x :: st) :=
  fun H locs ls X hl => lv_ior C.1 C.2.1 d (kk H locs ls X hl)
theorem j_ixor (C : jk_C p R s m args c cells slots cc nL own Ts D cl tys A) {x y : Int32} (d : decode cc pc = .ok (.ixor, 1)) (kk : JJ p l e R s m args below meth c cells slots nL D cl wd A Q (pc + 1) lv u (.int (x ^^^ y) :: st)) : JJ p l e R s m args below meth c cells slots nL D cl wd A Q pc lv u (.int y :: .int x :: st) :=
  fun H locs ls X hl => lv_ixor C.1 C.2.1 d (kk H locs ls X hl)
theorem j_ishl (C : jk_C p R s m args c cells slots cc nL own Ts D cl tys A) {x y : Int32} (v : Int32) (d : decode cc pc = .ok (.ishl, 1)) (hv : x <<< (y &&& 31) = v) (kk : JJ p l e R s m args below meth c cells slots nL D cl wd A Q (pc + 1) lv u (.int v :: st)) : JJ p l e R s m args below meth c cells slots nL D cl wd A Q pc lv u (.int y :: .int x :: st) :=
  fun H locs ls X hl => lv_ishl C.1 C.2.1 d (by rw [hv]; exact kk H locs ls X hl)
theorem j_ishr (C : jk_C p R s m args c cells slots cc nL own Ts D cl tys A) {x y : Int32} (v : Int32) (d : decode cc pc = .ok (.ishr, 1)) (hv : x >>> (y &&& 31) = v) (kk : JJ p l e R s m args below meth c cells slots nL D cl wd A Q (pc + 1) lv u (.int v :: st)) : JJ p l e R s m args below meth c cells slots nL D cl wd A Q pc lv u (.int y :: .int x :: st) :=
  fun H locs ls X hl => lv_ishr C.1 C.2.1 d (by rw [hv]; exact kk H locs ls X hl)
theorem j_idiv (C : jk_C p R s m args c cells slots cc nL own Ts D cl tys A) {x y : Int32} (v : Int32) (d : decode cc pc = .ok (.idiv, 1)) (hne : ¬ y = 0) (hv : x / y = v) (kk : JJ p l e R s m args below meth c cells slots nL D cl wd A Q (pc + 1) lv u (.int v :: st)) : JJ p l e R s m args below meth c cells slots nL D cl wd A Q pc lv u (.int y :: .int x :: st) :=
  fun H locs ls X hl => lv_idiv C.1 C.2.1 d hne (by rw [hv]; exact kk H locs ls X hl)
theorem j_irem (C : jk_C p R s m args c cells slots cc nL own Ts D cl tys A) {x y : Int32} (v : Int32) (d : decode cc pc = .ok (.irem, 1)) (hne : ¬ y = 0) (hv : x - x / y * y = v) (kk : JJ p l e R s m args below meth c cells slots nL D cl wd A Q (pc + 1) lv u (.int v :: st)) : JJ p l e R s m args below meth c cells slots nL D cl wd A Q pc lv u (.int y :: .int x :: st) :=
  fun H locs ls X hl => lv_irem C.1 C.2.1 d hne (by rw [hv]; exact kk H locs ls X hl)
theorem j_dup (C : jk_C p R s m args c cells slots cc nL own Ts D cl tys A) {v : Value} (d : decode cc pc = .ok (.dup, 1)) (hv : v.category = 1) (kk : JJ p l e R s m args below meth c cells slots nL D cl wd A Q (pc + 1) lv u (v :: v :: st)) : JJ p l e R s m args below meth c cells slots nL D cl wd A Q pc lv u (v :: st) :=
  fun H locs ls X hl => lv_dup C.1 C.2.1 d hv (kk H locs ls X hl)
theorem j_dup2 (C : jk_C p R s m args c cells slots cc nL own Ts D cl tys A) {v w : Value} (d : decode cc pc = .ok (.dup2, 1)) (hv : v.category = 1) (hw : w.category = 1) (kk : JJ p l e R s m args below meth c cells slots nL D cl wd A Q (pc + 1) lv u (v :: w :: v :: w :: st)) : JJ p l e R s m args below meth c cells slots nL D cl wd A Q pc lv u (v :: w :: st) :=
  fun H locs ls X hl => lv_dup2_11 C.1 C.2.1 d hv hw (kk H locs ls X hl)
theorem j_pop (C : jk_C p R s m args c cells slots cc nL own Ts D cl tys A) {v : Value} (d : decode cc pc = .ok (.pop, 1)) (hv : v.category = 1) (kk : JJ p l e R s m args below meth c cells slots nL D cl wd A Q (pc + 1) lv u st) : JJ p l e R s m args below meth c cells slots nL D cl wd A Q pc lv u (v :: st) :=
  fun H locs ls X hl => lv_pop C.1 C.2.1 d hv (kk H locs ls X hl)
theorem j_goto (C : jk_C p R s m args c cells slots cc nL own Ts D cl tys A) {off : Int} (tgt : Nat) (d : decode cc pc = .ok (.goto off, 3)) (ht : (pc : Int) + off = (tgt : Int)) (kk : JJ p l e R s m args below meth c cells slots nL D cl wd A Q tgt lv u st) : JJ p l e R s m args below meth c cells slots nL D cl wd A Q pc lv u st :=
  fun H locs ls X hl => lv_goto C.1 C.2.1 d ht (kk H locs ls X hl)
theorem j_if_eq (C : jk_C p R s m args c cells slots cc nL own Ts D cl tys A) {x : Int32} {off : Int} (tgt : Nat) (d : decode cc pc = .ok (.ifCond .eq off, 3)) (ht : (pc : Int) + off = (tgt : Int)) (kt : x = 0 → JJ p l e R s m args below meth c cells slots nL D cl wd A Q tgt lv u st) (kf : ¬ x = 0 → JJ p l e R s m args below meth c cells slots nL D cl wd A Q (pc + 3) lv u st) : JJ p l e R s m args below meth c cells slots nL D cl wd A Q pc lv u (.int x :: st) :=
  fun H locs ls X hl => lv_if_eq C.1 C.2.1 d ht (fun h => kt h H locs ls X hl) (fun h => kf h H locs ls X hl)
theorem j_if_ne (C : jk_C p R s m args c cells slots cc nL own Ts D cl tys A) {x : Int32} {off : Int} (tgt : Nat) (d : decode cc pc = .ok (.ifCond .ne off, 3)) (ht : (pc : Int) + off = (tgt : Int)) (kt : ¬ x = 0 → JJ p l e R s m args below meth c cells slots nL D cl wd A Q tgt lv u st) (kf : x = 0 → JJ p l e R s m args below meth c cells slots nL D cl wd A Q (pc + 3) lv u st) : JJ p l e R s m args below meth c cells slots nL D cl wd A Q pc lv u (.int x :: st) :=
  fun H locs ls X hl => lv_if_ne C.1 C.2.1 d ht (fun h => kt h H locs ls X hl) (fun h => kf h H locs ls X hl)
theorem j_if_lt (C : jk_C p R s m args c cells slots cc nL own Ts D cl tys A) {x : Int32} {off : Int} (tgt : Nat) (d : decode cc pc = .ok (.ifCond .lt off, 3)) (ht : (pc : Int) + off = (tgt : Int)) (kt : x < 0 → JJ p l e R s m args below meth c cells slots nL D cl wd A Q tgt lv u st) (kf : ¬ x < 0 → JJ p l e R s m args below meth c cells slots nL D cl wd A Q (pc + 3) lv u st) : JJ p l e R s m args below meth c cells slots nL D cl wd A Q pc lv u (.int x :: st) :=
  fun H locs ls X hl => lv_if_lt C.1 C.2.1 d ht (fun h => kt h H locs ls X hl) (fun h => kf h H locs ls X hl)
theorem j_if_ge (C : jk_C p R s m args c cells slots cc nL own Ts D cl tys A) {x : Int32} {off : Int} (tgt : Nat) (d : decode cc pc = .ok (.ifCond .ge off, 3)) (ht : (pc : Int) + off = (tgt : Int)) (kt : 0 ≤ x → JJ p l e R s m args below meth c cells slots nL D cl wd A Q tgt lv u st) (kf : ¬ 0 ≤ x → JJ p l e R s m args below meth c cells slots nL D cl wd A Q (pc + 3) lv u st) : JJ p l e R s m args below meth c cells slots nL D cl wd A Q pc lv u (.int x :: st) :=
  fun H locs ls X hl => lv_if_ge C.1 C.2.1 d ht (fun h => kt h H locs ls X hl) (fun h => kf h H locs ls X hl)
theorem j_if_gt (C : jk_C p R s m args c cells slots cc nL own Ts D cl tys A) {x : Int32} {off : Int} (tgt : Nat) (d : decode cc pc = .ok (.ifCond .gt off, 3)) (ht : (pc : Int) + off = (tgt : Int)) (kt : 0 < x → JJ p l e R s m args below meth c cells slots nL D cl wd A Q tgt lv u st) (kf : ¬ 0 < x → JJ p l e R s m args below meth c cells slots nL D cl wd A Q (pc + 3) lv u st) : JJ p l e R s m args below meth c cells slots nL D cl wd A Q pc lv u (.int x :: st) :=
  fun H locs ls X hl => lv_if_gt C.1 C.2.1 d ht (fun h => kt h H locs ls X hl) (fun h => kf h H locs ls X hl)
theorem j_if_le (C : jk_C p R s m args c cells slots cc nL own Ts D cl tys A) {x : Int32} {off : Int} (tgt : Nat) (d : decode cc pc = .ok (.ifCond .le off, 3)) (ht : (pc : Int) + off = (tgt : Int)) (kt : x ≤ 0 → JJ p l e R s m args below meth c cells slots nL D cl wd A Q tgt lv u st) (kf : ¬ x ≤ 0 → JJ p l e R s m args below meth c cells slots nL D cl wd A Q (pc + 3) lv u st) : JJ p l e R s m args below meth c cells slots nL D cl wd A Q pc lv u (.int x :: st) :=
  fun H locs ls X hl => lv_if_le C.1 C.2.1 d ht (fun h => kt h H locs ls X hl) (fun h => kf h H locs ls X hl)
theorem j_icmp_eq (C : jk_C p R s m args c cells slots cc nL own Ts D cl tys A) {x y : Int32} {off : Int} (tgt : Nat) (d : decode cc pc = .ok (.if_icmp .eq off, 3)) (ht : (pc : Int) + off = (tgt : Int)) (kt : x = y → JJ p l e R s m args below meth c cells slots nL D cl wd A Q tgt lv u st) (kf : ¬ x = y → JJ p l e R s m args below meth c cells slots nL D cl wd A Q (pc + 3) lv u st) : JJ p l e R s m args below meth c cells slots nL D cl wd A Q pc lv u (.int y :: .int x :: st) :=
  fun H locs ls X hl => lv_icmp_eq C.1 C.2.1 d ht (fun h => kt h H locs ls X hl) (fun h => kf h H locs ls X hl)
theorem j_icmp_ne (C : jk_C p R s m args c cells slots cc nL own Ts D cl tys A) {x y : Int32} {off : Int} (tgt : Nat) (d : decode cc pc = .ok (.if_icmp .ne off, 3)) (ht : (pc : Int) + off = (tgt : Int)) (kt : ¬ x = y → JJ p l e R s m args below meth c cells slots nL D cl wd A Q tgt lv u st) (kf : x = y → JJ p l e R s m args below meth c cells slots nL D cl wd A Q (pc + 3) lv u st) : JJ p l e R s m args below meth c cells slots nL D cl wd A Q pc lv u (.int y :: .int x :: st) :=
  fun H locs ls X hl => lv_icmp_ne C.1 C.2.1 d ht (fun h => kt h H locs ls X hl) (fun h => kf h H locs ls X hl)
theorem j_icmp_lt (C : jk_C p R s m args c cells slots cc nL own Ts D cl tys A) {x y : Int32} {off : Int} (tgt : Nat) (d : decode cc pc = .ok (.if_icmp .lt off, 3)) (ht : (pc : Int) + off = (tgt : Int)) (kt : x < y → JJ p l e R s m args below meth c cells slots nL D cl wd A Q tgt lv u st) (kf : ¬ x < y → JJ p l e R s m args below meth c cells slots nL D cl wd A Q (pc + 3) lv u st) : JJ p l e R s m args below meth c cells slots nL D cl wd A Q pc lv u (.int y :: .int x :: st) :=
  fun H locs ls X hl => lv_icmp_lt C.1 C.2.1 d ht (fun h => kt h H locs ls X hl) (fun h => kf h H locs ls X hl)
theorem j_icmp_ge (C : jk_C p R s m args c cells slots cc nL own Ts D cl tys A) {x y : Int32} {off : Int} (tgt : Nat) (d : decode cc pc = .ok (.if_icmp .ge off, 3)) (ht : (pc : Int) + off = (tgt : Int)) (kt : y ≤ x → JJ p l e R s m args below meth c cells slots nL D cl wd A Q tgt lv u st) (kf : ¬ y ≤ x → JJ p l e R s m args below meth c cells slots nL D cl wd A Q (pc + 3) lv u st) : JJ p l e R s m args below meth c cells slots nL D cl wd A Q pc lv u (.int y :: .int x :: st) :=
  fun H locs ls X hl => lv_icmp_ge C.1 C.2.1 d ht (fun h => kt h H locs ls X hl) (fun h => kf h H locs ls X hl)
theorem j_icmp_gt (C : jk_C p R s m args c cells slots cc nL own Ts D cl tys A) {x y : Int32} {off : Int} (tgt : Nat) (d : decode cc pc = .ok (.if_icmp .gt off, 3)) (ht : (pc : Int) + off = (tgt : Int)) (kt : y < x → JJ p l e R s m args below meth c cells slots nL D cl wd A Q tgt lv u st) (kf : ¬ y < x → JJ p l e R s m args below meth c cells slots nL D cl wd A Q (pc + 3) lv u st) : JJ p l e R s m args below meth c cells slots nL D cl wd A Q pc lv u (.int y :: .int x :: st) :=
  fun H locs ls X hl => lv_icmp_gt C.1 C.2.1 d ht (fun h => kt h H locs ls X hl) (fun h => kf h H locs ls X hl)
theorem j_icmp_le (C : jk_C p R s m args c cells slots cc nL own Ts D cl tys A) {x y : Int32} {off : Int} (tgt : Nat) (d : decode cc pc = .ok (.if_icmp .le off, 3)) (ht : (pc : Int) + off = (tgt : Int)) (kt : x ≤ y → JJ p l e R s m args below meth c cells slots nL D cl wd A Q tgt lv u st) (kf : ¬ x ≤ y → JJ p l e R s m args below meth c cells slots nL D cl wd A Q (pc + 3) lv u st) : JJ p l e R s m args below meth c cells slots nL D cl wd A Q pc lv u (.int y :: .int x :: st) :=
  fun H locs ls X hl => lv_icmp_le C.1 C.2.1 d ht (fun h => kt h H locs ls X hl) (fun h => kf h H locs ls X hl)
/-- the same stack, or locals, or world, said otherwise -/
theorem j_st {st' : List Value} (h : st = st') (kk : JJ p l e R s m args below meth c cells slots nL D cl wd A Q pc lv u st') : JJ p l e R s m args below meth c cells slots nL D cl wd A Q pc lv u st := h ▸ kk
theorem j_u {u' : S} (h : u = u') (kk : JJ p l e R s m args below meth c cells slots nL D cl wd A Q pc lv u' st) : JJ p l e R s m args below meth c cells slots nL D cl wd A Q pc lv u st := h ▸ kk
theorem j_lq {lv' : List (Nat × Value)} (h : lv = lv') (kk : JJ p l e R s m args below meth c cells slots nL D cl wd A Q pc lv' u st) : JJ p l e R s m args below meth c cells slots nL D cl wd A Q pc lv u st := h ▸ kk
theorem j_lv {lv' : List (Nat × Value)} (ks : List Nat) (h : lv_pick lv ks = lv') (kk : JJ p l e R s m args below meth c cells slots nL D cl wd A Q pc lv' u st) : JJ p l e R s m args below meth c cells slots nL D cl wd A Q pc lv u st :=
  fun H locs ls X hl => kk H locs ls X (lv_sub hl ks h)
theorem j_tableOut (C : jk_C p R s m args c cells slots cc nL own Ts D cl tys A) {dflt lo hi : Int} {offs : Array Int} {len : Nat} {x : Int32} (tgt : Nat) (d : decode cc pc = .ok (.tableswitch dflt lo hi offs, len)) (h : x.toInt < lo ∨ hi < x.toInt) (ht : (pc : Int) + dflt = (tgt : Int)) (kk : JJ p l e R s m args below meth c cells slots nL D cl wd A Q tgt lv u st) : JJ p l e R s m args below meth c cells slots nL D cl wd A Q pc lv u (.int x :: st) :=
  fun H locs ls X hl => lv_tableOut C.1 C.2.1 d h ht (kk H locs ls X hl)
theorem j_tableIn (C : jk_C p R s m args c cells slots cc nL own Ts D cl tys A) {dflt lo hi : Int} {offs : Array Int} {len : Nat} {x : Int32} {off : Int} (tgt : Nat) (d : decode cc pc = .ok (.tableswitch dflt lo hi offs, len)) (h1 : ¬ x.toInt < lo) (h2 : ¬ hi < x.toInt) (ho : offs[(x.toInt - lo).toNat]? = some off) (ht : (pc : Int) + off = (tgt : Int)) (kk : JJ p l e R s m args below meth c cells slots nL D cl wd A Q tgt lv u st) : JJ p l e R s m args below meth c cells slots nL D cl wd A Q pc lv u (.int x :: st) :=
  fun H locs ls X hl => lv_tableIn C.1 C.2.1 d h1 h2 ho ht (kk H locs ls X hl)
/-- fields -/
theorem j_get (C : jk_C p R s m args c cells slots cc nL own Ts D cl tys A) {ci index N : Nat} {Cn : String} {T : u_T} {ty0 : Nat → FieldType} (F : jk_F cl Ts ci Cn T N ty0) (q0 : Nat) {a : Nat} {fs : List Value} (he : (wd u)[q0]? = some (a, .inr (ci, fs))) (k : Nat) (hk : k < N) (hlink : Cond.fieldLink own index (T k).1 (T k).2.1 (T k).2.2.1 ∈ Ts) {v : Value} (hv : fs[k]? = some v) (d : decode cc pc = .ok (.getfield index, 3)) (kk : JJ p l e R s m args below meth c cells slots nL D cl wd A Q (pc + 3) lv u (v :: st)) : JJ p l e R s m args below meth c cells slots nL D cl wd A Q pc lv u (.ref a :: st) :=
  fun H locs ls X hl => va_get C.1 C.2.1 C.2.2.2.2.1 F.2.2.2 C.2.2.2.1 C.2.2.2.2.2.1 X.1 q0 he F.1 k hk (C.2.2.2.2.1 _ hlink) (fun _ h => h) hv d (kk H locs ls X hl)
theorem j_put (C : jk_C p R s m args c cells slots cc nL own Ts D cl tys A) {ci index N : Nat} {Cn : String} {T : u_T} {ty0 : Nat → FieldType} (F : jk_F cl Ts ci Cn T N ty0) (q0 : Nat) {a : Nat} {fs : List Value} (he : (wd u)[q0]? = some (a, .inr (ci, fs))) (k : Nat) (hk : k < N) (hlink : Cond.fieldLink own index (T k).1 (T k).2.1 (T k).2.2.1 ∈ Ts) (hfin : (T k).2.2.2 = false) {v : Value} (hn : narrow (ty0 k) v = v) (hfit : fits (ty0 k) v = true) (hlen : k < fs.length) {u' : S} (hu : (wd u).set q0 (a, .inr (ci, fs.set k v)) = wd u') (d : decode cc pc = .ok (.putfield index, 3)) (kk : JJ p l e R s m args below meth c cells slots nL D cl wd A Q (pc + 3) lv u' st) : JJ p l e R s m args below meth c cells slots nL D cl wd A Q pc lv u (v :: .ref a :: st) :=
  fun H locs ls X hl => va_put C.1 C.2.1 C.2.2.2.2.1 F.2.2.2 ty0 F.2.1 F.2.2.1 C.2.2.2.1 C.2.2.2.2.2.1 X.1 X.2.1 X.2.2 q0 he F.1 k hk (C.2.2.2.2.1 _ hlink) (fun _ h => h) hfin (F.2.1 k hk) hn hfit hlen d (fun H1 locs1 hP hD hS => kk H1 locs1 ls ⟨hu ▸ hP, hu ▸ hD, hS⟩ hl)
/-- arrays -/
theorem j_iald (C : jk_C p R s m args c cells slots cc nL own Ts D cl tys A) (q0 t0 : Nat) {a : Nat} {cA : ClassId} {n : Nat} {f : Nat → Int32} (ha : (wd u)[q0]? = some (a, .inl (cA, n, .inl f))) (ht : tys[t0]? = some (cA, .int)) {i : Int32} (j : Nat) (hi : i = nI j) (hj : j < n) (hb : n < 2 ^ 31) (d : decode cc pc = .ok (.iaload, 1)) (kk : JJ p l e R s m args below meth c cells slots nL D cl wd A Q (pc + 1) lv u (.int (f j) :: st)) : JJ p l e R s m args below meth c cells slots nL D cl wd A Q pc lv u (.int i :: .ref a :: st) := by
  subst hi
  intro H locs ls X hl
  refine va_iald C.1 C.2.1 C.2.2.2.2.2.1 X.1 q0 t0 ha ht (vp_in_nI hj hb) d ?_
  rw [nI_clamp (Nat.lt_trans hj hb)]
  exact kk H locs ls X hl
theorem j_zald (C : jk_C p R s m args c cells slots cc nL own Ts D cl tys A) (q0 t0 : Nat) {a : Nat} {cA : ClassId} {n : Nat} {f : Nat → Int32} (ha : (wd u)[q0]? = some (a, .inl (cA, n, .inl f))) (ht : tys[t0]? = some (cA, .boolean)) {i : Int32} (j : Nat) (hi : i = nI j) (hj : j < n) (hb : n < 2 ^ 31) (d : decode cc pc = .ok (.baload, 1)) (kk : JJ p l e R s m args below meth c cells slots nL D cl wd A Q (pc + 1) lv u (.int (f j) :: st)) : JJ p l e R s m args below meth c cells slots nL D cl wd A Q pc lv u (.int i :: .ref a :: st) := by
  subst hi
  intro H locs ls X hl
  refine va_zald C.1 C.2.1 C.2.2.2.2.2.1 X.1 q0 t0 ha ht (vp_in_nI hj hb) d ?_
  rw [nI_clamp (Nat.lt_trans hj hb)]
  exact kk H locs ls X hl
theorem j_aald (C : jk_C p R s m args c cells slots cc nL own Ts D cl tys A) (q0 t0 : Nat) {a b : Nat} {cA : ClassId} {Cn : String} {n : Nat} {f : Nat → Option Nat} (ha : (wd u)[q0]? = some (a, .inl (cA, n, .inr (.inr (.inr (.inr f)))))) (ht : tys[t0]? = some (cA, .object Cn)) {i : Int32} (j : Nat) (hi : i = nI j) (hj : j < n) (hb : n < 2 ^ 31) (hf : f j = some b) (d : decode cc pc = .ok (.aaload, 1)) (kk : JJ p l e R s m args below meth c cells slots nL D cl wd A Q (pc + 1) lv u (.ref b :: st)) : JJ p l e R s m args below meth c cells slots nL D cl wd A Q pc lv u (.int i :: .ref a :: st) := by
  subst hi
  intro H locs ls X hl
  refine va_aldq C.1 C.2.1 C.2.2.2.2.2.1 X.1 q0 t0 ha ht (vp_in_nI hj hb) d ?_
  rw [nI_clamp (Nat.lt_trans hj hb), hf]
  exact kk H locs ls X hl
theorem j_iast (C : jk_C p R s m args c cells slots cc nL own Ts D cl tys A) (q0 t0 : Nat) {a : Nat} {cA : ClassId} {n : Nat} {f : Nat → Int32} (ha : (wd u)[q0]? = some (a, .inl (cA, n, .inl f))) (ht : tys[t0]? = some (cA, .int)) {i x : Int32} (j : Nat) (hi : i = nI j) (hj : j < n) (hb : n < 2 ^ 31) {u' : S} (hu : (wd u).set q0 (a, .inl (cA, n, .inl (upd f j x))) = wd u') (d : decode cc pc = .ok (.iastore, 1)) (kk : JJ p l e R s m args below meth c cells slots nL D cl wd A Q (pc + 1) lv u' st) : JJ p l e R s m args below meth c cells slots nL D cl wd A Q pc lv u (.int x :: .int i :: .ref a :: st) := by
  subst hi
  intro H locs ls X hl
  refine va_iast C.1 C.2.1 C.2.2.2.2.2.1 X.1 X.2.1 X.2.2 q0 t0 ha ht (vp_in_nI hj hb) d (fun H1 locs1 hP hD hS => ?_)
  rw [nI_clamp (Nat.lt_trans hj hb), hu] at hP hD
  exact kk H1 locs1 ls ⟨hP, hD, hS⟩ hl
theorem j_zast (C : jk_C p R s m args c cells slots cc nL own Ts D cl tys A) (q0 t0 : Nat) {a : Nat} {cA : ClassId} {n : Nat} {f : Nat → Int32} (ha : (wd u)[q0]? = some (a, .inl (cA, n, .inl f))) (ht : tys[t0]? = some (cA, .boolean)) {i x : Int32} (j : Nat) (hi : i = nI j) (hj : j < n) (hb : n < 2 ^ 31) (hx : vp_nar .boolean x = x) {u' : S} (hu : (wd u).set q0 (a, .inl (cA, n, .inl (upd f j x))) = wd u') (d : decode cc pc = .ok (.bastore, 1)) (kk : JJ p l e R s m args below meth c cells slots nL D cl wd A Q (pc + 1) lv u' st) : JJ p l e R s m args below meth c cells slots nL D cl wd A Q pc lv u (.int x :: .int i :: .ref a :: st) := by
  subst hi
  intro H locs ls X hl
  refine va_zast C.1 C.2.1 C.2.2.2.2.2.1 X.1 X.2.1 X.2.2 q0 t0 ha ht (vp_in_nI hj hb) d (fun H1 locs1 hP hD hS => ?_)
  rw [nI_clamp (Nat.lt_trans hj hb), hx, hu] at hP hD
  exact kk H1 locs1 ls ⟨hP, hD, hS⟩ hl
theorem j_alen (C : jk_C p R s m args c cells slots cc nL own Ts D cl tys A) (q0 t0 : Nat) {a : Nat} {cA : ClassId} {x : vp_A} {ty : FieldType} (ha : (wd u)[q0]? = some (a, .inl (cA, x))) (ht : tys[t0]? = some (cA, ty)) (v : Int32) (hv : Int32.ofNat x.1 = v) (d : decode cc pc = .ok (.arraylength, 1)) (kk : JJ p l e R s m args below meth c cells slots nL D cl wd A Q (pc + 1) lv u (.int v :: st)) : JJ p l e R s m args below meth c cells slots nL D cl wd A Q pc lv u (.ref a :: st) :=
  fun H locs ls X hl => va_alen C.1 C.2.1 C.2.2.2.2.2.1 X.1 q0 t0 ha ht hv d (kk H locs ls X hl)
end JK
-- CONTRACTS over a world that keeps its addresses
def jk_P {S : Type} (D : va_G) (cl : List vw_C) (tys : List (ClassId × FieldType)) (wd : S → va_W) (u : S) (sz : Nat) (U : State) : Prop := U.heap.size = sz ∧ va_P D cl (wd u) U.heap ∧ va_K D cl tys U ∧ va_D (fun _ => True) (wd u) ∧ jk_N (va_A (wd u) sz) U
def jk_E {S : Type} (D : va_G) (cl : List vw_C) (tys : List (ClassId × FieldType)) (wd : S → va_W) (A : Nat → Prop) (u : S) (t : State) : Prop := va_P D cl (wd u) t.heap ∧ va_K D cl tys t ∧ va_D A (wd u)
def CtI {S : Type} (l : Launch) (y : MethodName) (ws : List Cond) (rm : Room) (D : va_G) (cl : List vw_C) (tys : List (ClassId × FieldType)) (wd : S → va_W) (av : List Value) (u : S) (fr : Int32) (fu : S) : Prop :=
  ∀ sz : Nat, Met l y ws rm (va_Pc av (jk_P D cl tys wd u sz)) (va_Qi (fun r u' => r = fr ∧ u' = fu) (jk_E D cl tys wd (va_A (wd u) sz)) (va_A (wd u) sz)) 0 0 (va_A (wd u) sz)
def CtV {S : Type} (l : Launch) (y : MethodName) (ws : List Cond) (rm : Room) (D : va_G) (cl : List vw_C) (tys : List (ClassId × FieldType)) (wd : S → va_W) (av : List Value) (u : S) (fu : S) : Prop :=
  ∀ sz : Nat, Met l y ws rm (va_Pc av (jk_P D cl tys wd u sz)) (va_Qv (fun u' => u' = fu) (jk_E D cl tys wd (va_A (wd u) sz)) (va_A (wd u) sz)) 0 0 (va_A (wd u) sz)
/-- a method's body: its context, its room, and its end -/
def jk_BI {S : Type} (p : Program) (l : Launch) (e : Env) (R : Room) (s : State) (m : MethodId) (args : Array Value) (below : List Frame) (meth : Method) (c : Code) (cc : ByteArray) (nL : Nat) (own : String) (Ts : List Cond) (ty : FieldType) (D : va_G) (cl : List vw_C) (tys : List (ClassId × FieldType)) (wd : S → va_W) (A : Nat → Prop) (Q : State → Prop) (rm : Room) (F : Int32 × S) : Prop :=
  jk_C p R s m args c 0 0 cc nL own Ts D cl tys A ∧ R = rm ∧ ∀ (pc : Nat) (lv : List (Nat × Value)) (v : Int32) (u : S), decode cc pc = .ok (.ireturn, 1) → narrow ty (.int v) = .int v → (v, u) = F → JJ p l e R s m args below meth c 0 0 nL D cl wd A Q pc lv u [.int v]
def jk_BV {S : Type} (p : Program) (l : Launch) (e : Env) (R : Room) (s : State) (m : MethodId) (args : Array Value) (below : List Frame) (meth : Method) (c : Code) (cc : ByteArray) (nL : Nat) (own : String) (Ts : List Cond) (D : va_G) (cl : List vw_C) (tys : List (ClassId × FieldType)) (wd : S → va_W) (A : Nat → Prop) (Q : State → Prop) (rm : Room) (F : S) : Prop :=
  jk_C p R s m args c 0 0 cc nL own Ts D cl tys A ∧ R = rm ∧ ∀ (pc : Nat) (lv : List (Nat × Value)) (u : S), decode cc pc = .ok (.return_, 1) → u = F → JJ p l e R s m args below meth c 0 0 nL D cl wd A Q pc lv u []
set_option maxHeartbeats 1000000 in
theorem jk_metI {S : Type} {l : Launch} {y : MethodName} {cc : ByteArray} {nL : Nat} {own : String} {Ts : List Cond} {ty : FieldType} {rm : Room} {D : va_G} {cl : List vw_C} {tys : List (ClassId × FieldType)} {wd : S → va_W} {av : List Value} {u : S} {fr : Int32} {fu : S}
    (hy : plainName y.cls = true) (hc : y.cls = own) (hav : (lg_sl av).length ≤ nL)
    (body : ∀ (p : Program) (e : Env) (R : Room) (s : State) (m : MethodId) (args : Array Value) (below : List Frame) (meth : Method) (c : Code) (A : Nat → Prop) (Q : State → Prop), jk_BI p l e R s m args below meth c cc nL own Ts ty D cl tys wd A Q rm (fr, fu) → JJ p l e R s m args below meth c 0 0 nL D cl wd A Q 0 (lv_args 0 av) u []) :
    CtI l y (.code y cc nL (some ty) :: Ts) rm D cl tys wd av u fr fu := by
  intro sz
  refine Met.ofW (cc := cc) (maxL := nL) (ret := some ty) hy rfl ?_
  intro p e s m args below meth c s₁ B hml hv
  obtain ⟨rfl, hsz, hP, hK, hD0, hN⟩ := hv
  have hts := atoms_spec (ws := .code y cc nL (some ty) :: Ts) B.pre
  have hown : s.vm.findClass own = some m.cls := by rw [← hc]; exact findClass_of_methodNamed B.named
  have hlocks := B.notSynchronized
  subst hsz
  have hD := hD0.self (sz := s.heap.size)
  generalize hAe : va_A (wd u) s.heap.size = A at hD hN ⊢
  have hA : ∀ q : Nat, s.heap.size ≤ q → A q := fun q h => by rw [← hAe]; exact Or.inr h
  have hC : jk_C p rm s m av.toArray c 0 0 cc nL own Ts D cl tys A := ⟨B.exec, B.bytes, hml, hown, fun w hw => hts w (List.mem_cons_of_mem _ hw), hK, hA, Nat.zero_le _, Nat.zero_le _, hN⟩
  have hl := lv_entry av (n := nL) hav
  rw [lg_entry_eq]
  refine body p e rm s m av.toArray below meth c A _ ⟨hC, rfl, ?_⟩ s.heap [] _ ⟨hP, hD, va_S.rf⟩ hl
  intro pc lv v u' d hn hF H locs ls X hl'
  obtain ⟨rfl, rfl⟩ := Prod.mk.inj hF
  exact W.zret B.exec B.bytes B.returns hn (fun t ht hW => ⟨⟨v, u', rfl, ⟨rfl, rfl⟩, by rw [ht]; exact X.1, va_K.moved hW.alike hK, X.2.1⟩, X.2.2.F ht⟩) X.2.2.2.2 d
set_option maxHeartbeats 1000000 in
theorem jk_metV {S : Type} {l : Launch} {y : MethodName} {cc : ByteArray} {nL : Nat} {own : String} {Ts : List Cond} {rm : Room} {D : va_G} {cl : List vw_C} {tys : List (ClassId × FieldType)} {wd : S → va_W} {av : List Value} {u : S} {fu : S}
    (hy : plainName y.cls = true) (hc : y.cls = own) (hav : (lg_sl av).length ≤ nL)
    (body : ∀ (p : Program) (e : Env) (R : Room) (s : State) (m : MethodId) (args : Array Value) (below : List Frame) (meth : Method) (c : Code) (A : Nat → Prop) (Q : State → Prop), jk_BV p l e R s m args below meth c cc nL own Ts D cl tys wd A Q rm fu → JJ p l e R s m args below meth c 0 0 nL D cl wd A Q 0 (lv_args 0 av) u []) :
    CtV l y (.code y cc nL none :: Ts) rm D cl tys wd av u fu := by
  intro sz
  refine Met.ofW (cc := cc) (maxL := nL) (ret := none) hy rfl ?_
  intro p e s m args below meth c s₁ B hml hv
  obtain ⟨rfl, hsz, hP, hK, hD0, hN⟩ := hv
  have hts := atoms_spec (ws := .code y cc nL none :: Ts) B.pre
  have hown : s.vm.findClass own = some m.cls := by rw [← hc]; exact findClass_of_methodNamed B.named
  have hlocks := B.notSynchronized
  subst hsz
  have hD := hD0.self (sz := s.heap.size)
  generalize hAe : va_A (wd u) s.heap.size = A at hD hN ⊢
  have hA : ∀ q : Nat, s.heap.size ≤ q → A q := fun q h => by rw [← hAe]; exact Or.inr h
  have hC : jk_C p rm s m av.toArray c 0 0 cc nL own Ts D cl tys A := ⟨B.exec, B.bytes, hml, hown, fun w hw => hts w (List.mem_cons_of_mem _ hw), hK, hA, Nat.zero_le _, Nat.zero_le _, hN⟩
  have hl := lv_entry av (n := nL) hav
  rw [lg_entry_eq]
  refine body p e rm s m av.toArray below meth c A _ ⟨hC, rfl, ?_⟩ s.heap [] _ ⟨hP, hD, va_S.rf⟩ hl
  intro pc lv u' d hF H locs ls X hl'
  subst hF
  exact W.vret B.exec B.bytes B.returns (fun t ht hW => ⟨⟨u', rfl, rfl, by rw [ht]; exact X.1, va_K.moved hW.alike hK, X.2.1⟩, X.2.2.F ht⟩) X.2.2.2.2 d
end
section
section JKC
variable {S : Type} {p : Program} {l : Launch} {e : Env} {R : Room} {s : State} {m : MethodId} {args : Array Value} {below : List Frame} {meth : Method} {c : Code} {cells slots : Nat} {cc : ByteArray} {nL : Nat} {own : String} {Ts : List Cond} {D : va_G} {cl : List vw_C} {tys : List (ClassId × FieldType)} {wd : S → va_W} {A : Nat → Prop} {Q : State → Prop} {pc : Nat} {lv : List (Nat × Value)} {u : S} {st : List Value}
theorem jk_in (C : jk_C p R s m args c cells slots cc nL own Ts D cl tys A) {H : Heap} {locs : List Loc} (X : jk_X D cl wd A s.heap u H locs) : ∀ q, va_A (wd u) H.size q → A q := by
  intro q h
  rcases h with ⟨k, e, h⟩ | h
  · exact X.2.1.2 k (q, e) h
  · exact C.2.2.2.2.2.2.1 q (Nat.le_trans X.2.2.1 h)
theorem jk_blind {av : List Value} {sz : Nat} : FrameBlind (va_Pc av (jk_P D cl tys wd u sz)) := fun a U g mk q => by
  obtain ⟨q0, q1, qP, qK, qD, qN⟩ := q
  exact ⟨q0, q1, qP, va_K.moved (u := U) (U := U.calling g mk a) (Vm.Alike.refl U.vm) qK, qD, qN.calling⟩
theorem jk_pre (C : jk_C p R s m args c cells slots cc nL own Ts D cl tys A) {H : Heap} {locs : List Loc} (X : jk_X D cl wd A s.heap u H locs) {av : List Value} : ∀ U : State, U.heap = H → s.WarmedH U.vm → va_Pc av (jk_P D cl tys wd u H.size) av.toArray U :=
  fun U hU hW => ⟨rfl, by rw [hU], by rw [hU]; exact X.1, va_K.moved hW.alike C.2.2.2.2.2.1, X.2.1.weaken (fun _ _ _ _ => trivial), (C.2.2.2.2.2.2.2.2.2.at (by rw [hU]; exact X.2.2) hW).narrow (jk_in C X)⟩
theorem j_runI (C : jk_C p R s m args c cells slots cc nL own Ts D cl tys A) {fr : Int32} {fu : S} {rest : List Value} {a : Array Value}
    (hr : ∀ (H : Heap) (locs : List Loc) (ls : Array Slot), jk_X D cl wd A s.heap u H locs → lv_has ls nL lv → va_Run p l e R s m args below meth c H locs cells slots 0 0 (F0 m pc ls st) rest (va_Qi (fun r u' => r = fr ∧ u' = fu) (jk_E D cl tys wd (va_A (wd u) H.size)) (va_A (wd u) H.size) a) (va_A (wd u) H.size))
    (kk : JJ p l e R s m args below meth c cells slots nL D cl wd A Q (pc + 3) lv fu (.int fr :: rest)) : JJ p l e R s m args below meth c cells slots nL D cl wd A Q pc lv u st := by
  intro H locs ls X hl
  have hF := jk_in C X
  refine va_calli (hr H locs ls X hl) X.2.2 (fun q _ h => hF q h) hF (fun r u' t H1 locs1 ht hvm hw hB hz1 hk1 hS => ?_)
  obtain ⟨rfl, rfl⟩ := hw
  obtain ⟨hP1, hK1, hD1⟩ := hB
  rw [ht] at hP1
  exact kk H1 locs1 ls ⟨hP1, hD1.weaken (fun _ q _ h => hF q.1 h), hS⟩ hl
theorem j_runV (C : jk_C p R s m args c cells slots cc nL own Ts D cl tys A) {fu : S} {rest : List Value} {a : Array Value}
    (hr : ∀ (H : Heap) (locs : List Loc) (ls : Array Slot), jk_X D cl wd A s.heap u H locs → lv_has ls nL lv → va_Run p l e R s m args below meth c H locs cells slots 0 0 (F0 m pc ls st) rest (va_Qv (fun u' => u' = fu) (jk_E D cl tys wd (va_A (wd u) H.size)) (va_A (wd u) H.size) a) (va_A (wd u) H.size))
    (kk : JJ p l e R s m args below meth c cells slots nL D cl wd A Q (pc + 3) lv fu rest) : JJ p l e R s m args below meth c cells slots nL D cl wd A Q pc lv u st := by
  intro H locs ls X hl
  have hF := jk_in C X
  refine va_callv (hr H locs ls X hl) X.2.2 (fun q _ h => hF q h) hF (fun u' t H1 locs1 ht hvm hw hB hz1 hk1 hS => ?_)
  subst hw
  obtain ⟨hP1, hK1, hD1⟩ := hB
  rw [ht] at hP1
  exact kk H1 locs1 ls ⟨hP1, hD1.weaken (fun _ q _ h => hF q.1 h), hS⟩ hl
/-- the words of a call, all out of one table of good words -/
def jk_good (Ts : List Cond) : Prop := ∀ w ∈ Ts, (w.onTables && w.keeps) = true ∨ ∃ ty, w = .arrayClass ty
theorem jk_GI (hg : jk_good Ts) {y : MethodName} {bytes : ByteArray} {maxL : Nat} {ret : Option FieldType} (hc : Cond.code y bytes maxL ret ∈ Ts) : GoodIn Ts (Cond.code y bytes maxL ret :: Ts) := by
  intro w hw
  rcases List.mem_cons.mp hw with rfl | h
  · exact ⟨hc, hg _ hc⟩
  · exact ⟨h, hg _ h⟩
theorem jk_GV (hg : jk_good Ts) {own : String} {idx : Nat} {Cn : String} {y : MethodName} {bytes : ByteArray} {maxL : Nat} {ret : Option FieldType} (h : ∀ w ∈ ([.methodLink own idx y, .instanceMethod y, .selects Cn y y, .initialized Cn] : List Cond), w ∈ Ts) (hc : Cond.code y bytes maxL ret ∈ Ts) : GoodIn Ts (wsV own idx Cn y (Cond.code y bytes maxL ret :: Ts)) := by
  intro w hw
  unfold wsV at hw
  rcases List.mem_append.mp hw with h1 | h1
  · exact ⟨h w h1, hg _ (h w h1)⟩
  · exact jk_GI hg hc w h1
theorem jk_GS (hg : jk_good Ts) {own : String} {idx : Nat} {y : MethodName} {bytes : ByteArray} {maxL : Nat} {ret : Option FieldType} (h : ∀ w ∈ ([.methodLink own idx y, .static y, .initialized y.cls] : List Cond), w ∈ Ts) (hc : Cond.code y bytes maxL ret ∈ Ts) : GoodIn Ts (va_wsS own idx y (Cond.code y bytes maxL ret :: Ts)) := by
  intro w hw
  unfold va_wsS at hw
  rcases List.mem_append.mp hw with h1 | h1
  · exact ⟨h w h1, hg _ (h w h1)⟩
  · exact jk_GI hg hc w h1
/-- a call's shape: its stack, its room, its descriptor -/
theorem j_cIV (C : jk_C p R s m args c cells slots cc nL own Ts D cl tys A) {y : MethodName} {bytes : ByteArray} {maxL index n : Nat} {ret : Option FieldType} {rm rm' : Room} {Cn : String} {b : Nat} {As rest : List Value} {fr : Int32} {fu : S}
    (hR0 : R = rm) (hM : CtI l y (.code y bytes maxL ret :: Ts) rm' D cl tys wd (.ref b :: As) u fr fu) (hG : GoodIn Ts (wsV own index Cn y (Cond.code y bytes maxL ret :: Ts)))
    (hd : y.cls = Cn ∧ y.cls ≠ "java/lang/invoke/MethodHandle" ∧ y.cls ≠ "java/lang/invoke/VarHandle" ∧ (parseMethodDescriptor y.desc).map (fun d => d.parameters.length) = some n) (hR : (rm'.cells = 0 ∧ rm'.slots = 0) ∧ rm'.frames + 1 ≤ rm.frames ∧ 8 + (maxL + 11) + rm'.locals ≤ rm.locals)
    (q0 ci : Nat) {q : vw_C} {fs : List Value} (hrv : (wd u)[q0]? = some (b, .inr (ci, fs))) (hcl : cl[ci]? = some q) (hq : q.1 = Cn) (hn : As.length = n) (hst : st = As.reverse ++ .ref b :: rest) (hw : (rest.map fun v => v.category).sum ≤ 8) (d : decode cc pc = .ok (.invokevirtual index, 3))
    (kk : JJ p l e R s m args below meth c cells slots nL D cl wd A Q (pc + 3) lv fu (.int fr :: rest)) : JJ p l e R s m args below meth c cells slots nL D cl wd A Q pc lv u st := by
  subst hR0
  subst hq
  refine j_runI C (a := (.ref b :: As).toArray) (fun H locs ls X hl => ?_) kk
  exact va_runV (cc := cc) (nL := nL) (g := F0 m pc ls st) (As := As) (rest := rest) ⟨C.1, C.2.1, C.2.2.1, C.2.2.2.1, C.2.2.2.2.1⟩ (hM H.size) (cwV n C.2.2.2.2.1 hG rfl hR.1.1 hR.1.2 hd hR.2) ⟨jk_blind, va_recv C.2.2.2.2.2.1 X.1 hcl hrv, jk_pre C X⟩ rfl hn hl.1 hst (lv_room hw) d ⟨C.2.2.2.2.2.2.2.1, C.2.2.2.2.2.2.2.2.1⟩
theorem j_cVV (C : jk_C p R s m args c cells slots cc nL own Ts D cl tys A) {y : MethodName} {bytes : ByteArray} {maxL index n : Nat} {ret : Option FieldType} {rm rm' : Room} {Cn : String} {b : Nat} {As rest : List Value} {fu : S}
    (hR0 : R = rm) (hM : CtV l y (.code y bytes maxL ret :: Ts) rm' D cl tys wd (.ref b :: As) u fu) (hG : GoodIn Ts (wsV own index Cn y (Cond.code y bytes maxL ret :: Ts)))
    (hd : y.cls = Cn ∧ y.cls ≠ "java/lang/invoke/MethodHandle" ∧ y.cls ≠ "java/lang/invoke/VarHandle" ∧ (parseMethodDescriptor y.desc).map (fun d => d.parameters.length) = some n) (hR : (rm'.cells = 0 ∧ rm'.slots = 0) ∧ rm'.frames + 1 ≤ rm.frames ∧ 8 + (maxL + 11) + rm'.locals ≤ rm.locals)
    (q0 ci : Nat) {q : vw_C} {fs : List Value} (hrv : (wd u)[q0]? = some (b, .inr (ci, fs))) (hcl : cl[ci]? = some q) (hq : q.1 = Cn) (hn : As.length = n) (hst : st = As.reverse ++ .ref b :: rest) (hw : (rest.map fun v => v.category).sum ≤ 8) (d : decode cc pc = .ok (.invokevirtual index, 3))
    (kk : JJ p l e R s m args below meth c cells slots nL D cl wd A Q (pc + 3) lv fu rest) : JJ p l e R s m args below meth c cells slots nL D cl wd A Q pc lv u st := by
  subst hR0
  subst hq
  refine j_runV C (a := (.ref b :: As).toArray) (fun H locs ls X hl => ?_) kk
  exact va_runV (cc := cc) (nL := nL) (g := F0 m pc ls st) (As := As) (rest := rest) ⟨C.1, C.2.1, C.2.2.1, C.2.2.2.1, C.2.2.2.2.1⟩ (hM H.size) (cwV n C.2.2.2.2.1 hG rfl hR.1.1 hR.1.2 hd hR.2) ⟨jk_blind, va_recv C.2.2.2.2.2.1 X.1 hcl hrv, jk_pre C X⟩ rfl hn hl.1 hst (lv_room hw) d ⟨C.2.2.2.2.2.2.2.1, C.2.2.2.2.2.2.2.2.1⟩
theorem j_cIS (C : jk_C p R s m args c cells slots cc nL own Ts D cl tys A) {y : MethodName} {bytes : ByteArray} {maxL index n : Nat} {ret : Option FieldType} {rm rm' : Room} {As rest : List Value} {fr : Int32} {fu : S}
    (hR0 : R = rm) (hM : CtI l y (.code y bytes maxL ret :: Ts) rm' D cl tys wd As u fr fu) (hG : GoodIn Ts (va_wsS own index y (Cond.code y bytes maxL ret :: Ts)))
    (hd : y.cls ≠ "java/lang/invoke/MethodHandle" ∧ y.cls ≠ "java/lang/invoke/VarHandle" ∧ (parseMethodDescriptor y.desc).map (fun d => d.parameters.length) = some n) (hR : (rm'.cells = 0 ∧ rm'.slots = 0) ∧ rm'.frames + 1 ≤ rm.frames ∧ 8 + (maxL + 11) + rm'.locals ≤ rm.locals)
    (hn : As.length = n) (hst : st = As.reverse ++ rest) (hw : (rest.map fun v => v.category).sum ≤ 8) (d : decode cc pc = .ok (.invokestatic index, 3))
    (kk : JJ p l e R s m args below meth c cells slots nL D cl wd A Q (pc + 3) lv fu (.int fr :: rest)) : JJ p l e R s m args below meth c cells slots nL D cl wd A Q pc lv u st := by
  subst hR0
  refine j_runI C (a := As.toArray) (fun H locs ls X hl => ?_) kk
  exact va_runS (cc := cc) (nL := nL) (g := F0 m pc ls st) (As := As) (rest := rest) ⟨C.1, C.2.1, C.2.2.1, C.2.2.2.1, C.2.2.2.2.1⟩ (hM H.size) (va_cwS n C.2.2.2.2.1 hG rfl hR.1.1 hR.1.2 hd hR.2) ⟨jk_blind, jk_pre C X⟩ rfl hn hl.1 hst (lv_room hw) d ⟨C.2.2.2.2.2.2.2.1, C.2.2.2.2.2.2.2.2.1⟩
/-- a nest mate's static method -/
theorem j_cISN (C : jk_C p R s m args c cells slots cc nL own Ts D cl tys A) {y : MethodName} {bytes : ByteArray} {maxL index n : Nat} {ret : Option FieldType} {rm rm' : Room} {host : String} {As rest : List Value} {fr : Int32} {fu : S}
    (hR0 : R = rm) (hM : CtI l y (.code y bytes maxL ret :: Ts) rm' D cl tys wd As u fr fu) (hG : GoodIn Ts (Cond.code y bytes maxL ret :: Ts)) (hl0 : jk_N A s → va_Nw (.methodLinkNest own index y host) s) (hini : Cond.initialized y.cls ∈ Ts) (hsta : Cond.static y ∈ Ts)
    (hd : y.cls ≠ "java/lang/invoke/MethodHandle" ∧ y.cls ≠ "java/lang/invoke/VarHandle" ∧ (parseMethodDescriptor y.desc).map (fun d => d.parameters.length) = some n) (hR : (rm'.cells = 0 ∧ rm'.slots = 0) ∧ rm'.frames + 1 ≤ rm.frames ∧ 8 + (maxL + 11) + rm'.locals ≤ rm.locals)
    (hn : As.length = n) (hst : st = As.reverse ++ rest) (hw : (rest.map fun v => v.category).sum ≤ 8) (d : decode cc pc = .ok (.invokestatic index, 3))
    (kk : JJ p l e R s m args below meth c cells slots nL D cl wd A Q (pc + 3) lv fu (.int fr :: rest)) : JJ p l e R s m args below meth c cells slots nL D cl wd A Q pc lv u st := by
  subst hR0
  refine j_runI C (a := As.toArray) (fun H locs ls X hl => ?_) kk
  exact va_runSN (cc := cc) (nL := nL) (g := F0 m pc ls st) (As := As) (rest := rest) ⟨C.1, C.2.1, C.2.2.1, C.2.2.2.1, C.2.2.2.2.1⟩ (hM H.size) ⟨va_cnB n C.2.2.2.2.1 hG rfl hR.1.1 hR.1.2 (hl0 C.2.2.2.2.2.2.2.2.2) (C.2.2.2.2.1 _ hini) hd hR.2, C.2.2.2.2.1 _ hsta, trivial⟩ ⟨jk_blind, jk_pre C X⟩ rfl hn hl.1 hst (lv_room hw) d ⟨C.2.2.2.2.2.2.2.1, C.2.2.2.2.2.2.2.2.1⟩
/-- static int arrays of seven -/
theorem j_stat (C : jk_C p R s m args c cells slots cc nL own Ts D cl tys A) {fn : String} {index : Nat} {f : Nat → Int32} (hZ : jk_N A s → ∃ t : Nat, va_Z RX3 fn "[I" (.ref t) A s s.heap ∧ va_T .int t 7 (fun j => .int (f j)) A s s.heap) (hlink : Cond.fieldLink own index RX3 fn "[I" ∈ Ts) (d : decode cc pc = .ok (.getstatic index, 3))
    (kk : ∀ t : Nat, va_T .int t 7 (fun j => .int (f j)) A s s.heap → JJ p l e R s m args below meth c cells slots nL D cl wd A Q (pc + 3) lv u (.ref t :: st)) : JJ p l e R s m args below meth c cells slots nL D cl wd A Q pc lv u st := by
  intro H locs ls X hl
  obtain ⟨t, h1, h2⟩ := hZ C.2.2.2.2.2.2.2.2.2
  exact va_gets C.1 C.2.1 h1 X.2.2 C.2.2.2.1 (C.2.2.2.2.1 _ hlink) (fun _ h => h) d (kk t h2 H locs ls X hl)
theorem j_tald (C : jk_C p R s m args c cells slots cc nL own Ts D cl tys A) {t : Nat} {f : Nat → Int32} (hT : va_T .int t 7 (fun j => .int (f j)) A s s.heap) {i : Int32} (j : Nat) (hi : i = nI j) (hj : j < 7) (d : decode cc pc = .ok (.iaload, 1))
    (kk : JJ p l e R s m args below meth c cells slots nL D cl wd A Q (pc + 1) lv u (.int (f j) :: st)) : JJ p l e R s m args below meth c cells slots nL D cl wd A Q pc lv u (.int i :: .ref t :: st) := by
  subst hi
  intro H locs ls X hl
  refine va_ti C.1 C.2.1 hT X.2.2 (vp_in_nI hj (by decide)) (v := .int (f j)) (by rw [nI_clamp (Nat.lt_trans hj (by decide))]) d ?_
  exact kk H locs ls X hl
/-- Math.max -/
theorem j_max (C : jk_C p R s m args c cells slots cc nL own Ts D cl tys A) {x y : Int32} {index : Nat} {rm : Room} (hR0 : R = rm) (hR : 1 ≤ rm.frames) (hL : (st.map fun v => v.category).sum + 13 ≤ rm.locals) (h : ∀ w ∈ ([.methodLink own index Lib.Math.max.name, .static Lib.Math.max.name, .initialized "java/lang/Math"] : List Cond), w ∈ Ts) (hc : Cond.code Lib.Math.max.name Lib.Math.max.code 2 (some .int) ∈ Ts) (d : decode cc pc = .ok (.invokestatic index, 3)) (kk : JJ p l e R s m args below meth c cells slots nL D cl wd A Q (pc + 3) lv u (.int (if x < y then y else x) :: st)) : JJ p l e R s m args below meth c cells slots nL D cl wd A Q pc lv u (.int y :: .int x :: st) := by
  subst hR0
  intro H locs ls X hl
  exact va_mmax C.1 C.2.1 (C.2.2.1.trans hl.1.symm) C.2.2.2.1 (C.2.2.2.2.1 _ (h _ (by simp))) (C.2.2.2.2.1 _ (h _ (by simp))) (C.2.2.2.2.1 _ (h _ (by simp))) (C.2.2.2.2.1 _ hc) hR hL C.2.2.2.2.2.2.2.1 C.2.2.2.2.2.2.2.2.1 d (kk H locs ls X hl)
end JKC
end
section
theorem dL_law_0 : decode cL_law 0 = .ok (.new 7, 3) := by decide +kernel
theorem dL_law_3 : decode cL_law 3 = .ok (.dup, 1) := by decide +kernel
theorem dL_law_4 : decode cL_law 4 = .ok (.invokespecial 9, 3) := by decide +kernel
theorem dL_law_7 : decode cL_law 7 = .ok (.astore_n 1, 1) := by decide +kernel
theorem dL_law_8 : decode cL_law 8 = .ok (.new 10, 3) := by decide +kernel
theorem dL_law_11 : decode cL_law 11 = .ok (.dup, 1) := by decide +kernel
theorem dL_law_12 : decode cL_law 12 = .ok (.invokespecial 12, 3) := by decide +kernel
theorem dL_law_15 : decode cL_law 15 = .ok (.astore_n 2, 1) := by decide +kernel
theorem dL_law_16 : decode cL_law 16 = .ok (.iconst 0, 1) := by decide +kernel
theorem dL_law_17 : decode cL_law 17 = .ok (.istore_n 3, 1) := by decide +kernel
theorem dL_law_18 : decode cL_law 18 = .ok (.iload_n 3, 1) := by decide +kernel
theorem dL_law_19 : decode cL_law 19 = .ok (.aload_n 0, 1) := by decide +kernel
theorem dL_law_20 : decode cL_law 20 = .ok (.arraylength, 1) := by decide +kernel
theorem dL_law_21 : decode cL_law 21 = .ok (.iconst 4, 1) := by decide +kernel
theorem dL_law_22 : decode cL_law 22 = .ok (.isub, 1) := by decide +kernel
theorem dL_law_23 : decode cL_law 23 = .ok (.if_icmp .gt 415, 3) := by decide +kernel
theorem dL_law_26 : decode cL_law 26 = .ok (.aload_n 0, 1) := by decide +kernel
theorem dL_law_27 : decode cL_law 27 = .ok (.iload_n 3, 1) := by decide +kernel
theorem dL_law_28 : decode cL_law 28 = .ok (.iaload, 1) := by decide +kernel
theorem dL_law_29 : decode cL_law 29 = .ok (.bipush 15, 2) := by decide +kernel
theorem dL_law_31 : decode cL_law 31 = .ok (.iand, 1) := by decide +kernel
theorem dL_law_32 : decode cL_law 32 = .ok (.tableswitch 400 0 11 #[64, 107, 140, 173, 206, 229, 262, 285, 298, 331, 364, 387], 64) := by decide +kernel
theorem dL_law_96 : decode cL_law 96 = .ok (.aload_n 1, 1) := by decide +kernel
theorem dL_law_97 : decode cL_law 97 = .ok (.aload_n 0, 1) := by decide +kernel
theorem dL_law_98 : decode cL_law 98 = .ok (.iload_n 3, 1) := by decide +kernel
theorem dL_law_99 : decode cL_law 99 = .ok (.iconst 1, 1) := by decide +kernel
theorem dL_law_100 : decode cL_law 100 = .ok (.iadd, 1) := by decide +kernel
theorem dL_law_101 : decode cL_law 101 = .ok (.iaload, 1) := by decide +kernel
theorem dL_law_102 : decode cL_law 102 = .ok (.aload_n 0, 1) := by decide +kernel
theorem dL_law_103 : decode cL_law 103 = .ok (.iload_n 3, 1) := by decide +kernel
theorem dL_law_104 : decode cL_law 104 = .ok (.iconst 2, 1) := by decide +kernel
theorem dL_law_105 : decode cL_law 105 = .ok (.iadd, 1) := by decide +kernel
theorem dL_law_106 : decode cL_law 106 = .ok (.iaload, 1) := by decide +kernel
theorem dL_law_107 : decode cL_law 107 = .ok (.aload_n 0, 1) := by decide +kernel
theorem dL_law_108 : decode cL_law 108 = .ok (.iload_n 3, 1) := by decide +kernel
theorem dL_law_109 : decode cL_law 109 = .ok (.iconst 3, 1) := by decide +kernel
theorem dL_law_110 : decode cL_law 110 = .ok (.iadd, 1) := by decide +kernel
theorem dL_law_111 : decode cL_law 111 = .ok (.iaload, 1) := by decide +kernel
theorem dL_law_112 : decode cL_law 112 = .ok (.invokevirtual 13, 3) := by decide +kernel
theorem dL_law_115 : decode cL_law 115 = .ok (.aload_n 2, 1) := by decide +kernel
theorem dL_law_116 : decode cL_law 116 = .ok (.aload_n 0, 1) := by decide +kernel
theorem dL_law_117 : decode cL_law 117 = .ok (.iload_n 3, 1) := by decide +kernel
theorem dL_law_118 : decode cL_law 118 = .ok (.iconst 1, 1) := by decide +kernel
theorem dL_law_119 : decode cL_law 119 = .ok (.iadd, 1) := by decide +kernel
theorem dL_law_120 : decode cL_law 120 = .ok (.iaload, 1) := by decide +kernel
theorem dL_law_121 : decode cL_law 121 = .ok (.aload_n 0, 1) := by decide +kernel
theorem dL_law_122 : decode cL_law 122 = .ok (.iload_n 3, 1) := by decide +kernel
theorem dL_law_123 : decode cL_law 123 = .ok (.iconst 2, 1) := by decide +kernel
theorem dL_law_124 : decode cL_law 124 = .ok (.iadd, 1) := by decide +kernel
theorem dL_law_125 : decode cL_law 125 = .ok (.iaload, 1) := by decide +kernel
theorem dL_law_126 : decode cL_law 126 = .ok (.aload_n 0, 1) := by decide +kernel
theorem dL_law_127 : decode cL_law 127 = .ok (.iload_n 3, 1) := by decide +kernel
theorem dL_law_128 : decode cL_law 128 = .ok (.iconst 3, 1) := by decide +kernel
theorem dL_law_129 : decode cL_law 129 = .ok (.iadd, 1) := by decide +kernel
theorem dL_law_130 : decode cL_law 130 = .ok (.iaload, 1) := by decide +kernel
theorem dL_law_131 : decode cL_law 131 = .ok (.invokevirtual 17, 3) := by decide +kernel
theorem dL_law_134 : decode cL_law 134 = .ok (.if_icmp .eq 298, 3) := by decide +kernel
theorem dL_law_137 : decode cL_law 137 = .ok (.iconst 0, 1) := by decide +kernel
theorem dL_law_138 : decode cL_law 138 = .ok (.ireturn, 1) := by decide +kernel
theorem dL_law_139 : decode cL_law 139 = .ok (.aload_n 1, 1) := by decide +kernel
theorem dL_law_140 : decode cL_law 140 = .ok (.aload_n 0, 1) := by decide +kernel
theorem dL_law_141 : decode cL_law 141 = .ok (.iload_n 3, 1) := by decide +kernel
theorem dL_law_142 : decode cL_law 142 = .ok (.iconst 1, 1) := by decide +kernel
theorem dL_law_143 : decode cL_law 143 = .ok (.iadd, 1) := by decide +kernel
theorem dL_law_144 : decode cL_law 144 = .ok (.iaload, 1) := by decide +kernel
theorem dL_law_145 : decode cL_law 145 = .ok (.aload_n 0, 1) := by decide +kernel
theorem dL_law_146 : decode cL_law 146 = .ok (.iload_n 3, 1) := by decide +kernel
theorem dL_law_147 : decode cL_law 147 = .ok (.iconst 2, 1) := by decide +kernel
theorem dL_law_148 : decode cL_law 148 = .ok (.iadd, 1) := by decide +kernel
theorem dL_law_149 : decode cL_law 149 = .ok (.iaload, 1) := by decide +kernel
theorem dL_law_150 : decode cL_law 150 = .ok (.invokevirtual 18, 3) := by decide +kernel
theorem dL_law_153 : decode cL_law 153 = .ok (.aload_n 2, 1) := by decide +kernel
theorem dL_law_154 : decode cL_law 154 = .ok (.aload_n 0, 1) := by decide +kernel
theorem dL_law_155 : decode cL_law 155 = .ok (.iload_n 3, 1) := by decide +kernel
theorem dL_law_156 : decode cL_law 156 = .ok (.iconst 1, 1) := by decide +kernel
theorem dL_law_157 : decode cL_law 157 = .ok (.iadd, 1) := by decide +kernel
theorem dL_law_158 : decode cL_law 158 = .ok (.iaload, 1) := by decide +kernel
theorem dL_law_159 : decode cL_law 159 = .ok (.aload_n 0, 1) := by decide +kernel
theorem dL_law_160 : decode cL_law 160 = .ok (.iload_n 3, 1) := by decide +kernel
theorem dL_law_161 : decode cL_law 161 = .ok (.iconst 2, 1) := by decide +kernel
theorem dL_law_162 : decode cL_law 162 = .ok (.iadd, 1) := by decide +kernel
theorem dL_law_163 : decode cL_law 163 = .ok (.iaload, 1) := by decide +kernel
theorem dL_law_164 : decode cL_law 164 = .ok (.invokevirtual 22, 3) := by decide +kernel
theorem dL_law_167 : decode cL_law 167 = .ok (.if_icmp .eq 265, 3) := by decide +kernel
theorem dL_law_170 : decode cL_law 170 = .ok (.iconst 0, 1) := by decide +kernel
theorem dL_law_171 : decode cL_law 171 = .ok (.ireturn, 1) := by decide +kernel
theorem dL_law_172 : decode cL_law 172 = .ok (.aload_n 1, 1) := by decide +kernel
theorem dL_law_173 : decode cL_law 173 = .ok (.aload_n 0, 1) := by decide +kernel
theorem dL_law_174 : decode cL_law 174 = .ok (.iload_n 3, 1) := by decide +kernel
theorem dL_law_175 : decode cL_law 175 = .ok (.iconst 1, 1) := by decide +kernel
theorem dL_law_176 : decode cL_law 176 = .ok (.iadd, 1) := by decide +kernel
theorem dL_law_177 : decode cL_law 177 = .ok (.iaload, 1) := by decide +kernel
theorem dL_law_178 : decode cL_law 178 = .ok (.aload_n 0, 1) := by decide +kernel
theorem dL_law_179 : decode cL_law 179 = .ok (.iload_n 3, 1) := by decide +kernel
theorem dL_law_180 : decode cL_law 180 = .ok (.iconst 2, 1) := by decide +kernel
theorem dL_law_181 : decode cL_law 181 = .ok (.iadd, 1) := by decide +kernel
theorem dL_law_182 : decode cL_law 182 = .ok (.iaload, 1) := by decide +kernel
theorem dL_law_183 : decode cL_law 183 = .ok (.invokevirtual 23, 3) := by decide +kernel
theorem dL_law_186 : decode cL_law 186 = .ok (.aload_n 2, 1) := by decide +kernel
theorem dL_law_187 : decode cL_law 187 = .ok (.aload_n 0, 1) := by decide +kernel
theorem dL_law_188 : decode cL_law 188 = .ok (.iload_n 3, 1) := by decide +kernel
theorem dL_law_189 : decode cL_law 189 = .ok (.iconst 1, 1) := by decide +kernel
theorem dL_law_190 : decode cL_law 190 = .ok (.iadd, 1) := by decide +kernel
theorem dL_law_191 : decode cL_law 191 = .ok (.iaload, 1) := by decide +kernel
theorem dL_law_192 : decode cL_law 192 = .ok (.aload_n 0, 1) := by decide +kernel
theorem dL_law_193 : decode cL_law 193 = .ok (.iload_n 3, 1) := by decide +kernel
theorem dL_law_194 : decode cL_law 194 = .ok (.iconst 2, 1) := by decide +kernel
theorem dL_law_195 : decode cL_law 195 = .ok (.iadd, 1) := by decide +kernel
theorem dL_law_196 : decode cL_law 196 = .ok (.iaload, 1) := by decide +kernel
theorem dL_law_197 : decode cL_law 197 = .ok (.invokevirtual 26, 3) := by decide +kernel
theorem dL_law_200 : decode cL_law 200 = .ok (.if_icmp .eq 232, 3) := by decide +kernel
theorem dL_law_203 : decode cL_law 203 = .ok (.iconst 0, 1) := by decide +kernel
theorem dL_law_204 : decode cL_law 204 = .ok (.ireturn, 1) := by decide +kernel
theorem dL_law_205 : decode cL_law 205 = .ok (.aload_n 1, 1) := by decide +kernel
theorem dL_law_206 : decode cL_law 206 = .ok (.aload_n 0, 1) := by decide +kernel
theorem dL_law_207 : decode cL_law 207 = .ok (.iload_n 3, 1) := by decide +kernel
theorem dL_law_208 : decode cL_law 208 = .ok (.iconst 1, 1) := by decide +kernel
theorem dL_law_209 : decode cL_law 209 = .ok (.iadd, 1) := by decide +kernel
theorem dL_law_210 : decode cL_law 210 = .ok (.iaload, 1) := by decide +kernel
theorem dL_law_211 : decode cL_law 211 = .ok (.aload_n 0, 1) := by decide +kernel
theorem dL_law_212 : decode cL_law 212 = .ok (.iload_n 3, 1) := by decide +kernel
theorem dL_law_213 : decode cL_law 213 = .ok (.iconst 2, 1) := by decide +kernel
theorem dL_law_214 : decode cL_law 214 = .ok (.iadd, 1) := by decide +kernel
theorem dL_law_215 : decode cL_law 215 = .ok (.iaload, 1) := by decide +kernel
theorem dL_law_216 : decode cL_law 216 = .ok (.invokevirtual 27, 3) := by decide +kernel
theorem dL_law_219 : decode cL_law 219 = .ok (.aload_n 2, 1) := by decide +kernel
theorem dL_law_220 : decode cL_law 220 = .ok (.aload_n 0, 1) := by decide +kernel
theorem dL_law_221 : decode cL_law 221 = .ok (.iload_n 3, 1) := by decide +kernel
theorem dL_law_222 : decode cL_law 222 = .ok (.iconst 1, 1) := by decide +kernel
theorem dL_law_223 : decode cL_law 223 = .ok (.iadd, 1) := by decide +kernel
theorem dL_law_224 : decode cL_law 224 = .ok (.iaload, 1) := by decide +kernel
theorem dL_law_225 : decode cL_law 225 = .ok (.aload_n 0, 1) := by decide +kernel
theorem dL_law_226 : decode cL_law 226 = .ok (.iload_n 3, 1) := by decide +kernel
theorem dL_law_227 : decode cL_law 227 = .ok (.iconst 2, 1) := by decide +kernel
theorem dL_law_228 : decode cL_law 228 = .ok (.iadd, 1) := by decide +kernel
theorem dL_law_229 : decode cL_law 229 = .ok (.iaload, 1) := by decide +kernel
theorem dL_law_230 : decode cL_law 230 = .ok (.invokevirtual 30, 3) := by decide +kernel
theorem dL_law_233 : decode cL_law 233 = .ok (.if_icmp .eq 199, 3) := by decide +kernel
theorem dL_law_236 : decode cL_law 236 = .ok (.iconst 0, 1) := by decide +kernel
theorem dL_law_237 : decode cL_law 237 = .ok (.ireturn, 1) := by decide +kernel
theorem dL_law_238 : decode cL_law 238 = .ok (.aload_n 1, 1) := by decide +kernel
theorem dL_law_239 : decode cL_law 239 = .ok (.aload_n 0, 1) := by decide +kernel
theorem dL_law_240 : decode cL_law 240 = .ok (.iload_n 3, 1) := by decide +kernel
theorem dL_law_241 : decode cL_law 241 = .ok (.iconst 1, 1) := by decide +kernel
theorem dL_law_242 : decode cL_law 242 = .ok (.iadd, 1) := by decide +kernel
theorem dL_law_243 : decode cL_law 243 = .ok (.iaload, 1) := by decide +kernel
theorem dL_law_244 : decode cL_law 244 = .ok (.invokevirtual 31, 3) := by decide +kernel
theorem dL_law_247 : decode cL_law 247 = .ok (.aload_n 2, 1) := by decide +kernel
theorem dL_law_248 : decode cL_law 248 = .ok (.aload_n 0, 1) := by decide +kernel
theorem dL_law_249 : decode cL_law 249 = .ok (.iload_n 3, 1) := by decide +kernel
theorem dL_law_250 : decode cL_law 250 = .ok (.iconst 1, 1) := by decide +kernel
theorem dL_law_251 : decode cL_law 251 = .ok (.iadd, 1) := by decide +kernel
theorem dL_law_252 : decode cL_law 252 = .ok (.iaload, 1) := by decide +kernel
theorem dL_law_253 : decode cL_law 253 = .ok (.invokevirtual 35, 3) := by decide +kernel
theorem dL_law_256 : decode cL_law 256 = .ok (.if_icmp .eq 176, 3) := by decide +kernel
theorem dL_law_259 : decode cL_law 259 = .ok (.iconst 0, 1) := by decide +kernel
theorem dL_law_260 : decode cL_law 260 = .ok (.ireturn, 1) := by decide +kernel
theorem dL_law_261 : decode cL_law 261 = .ok (.aload_n 1, 1) := by decide +kernel
theorem dL_law_262 : decode cL_law 262 = .ok (.aload_n 0, 1) := by decide +kernel
theorem dL_law_263 : decode cL_law 263 = .ok (.iload_n 3, 1) := by decide +kernel
theorem dL_law_264 : decode cL_law 264 = .ok (.iconst 1, 1) := by decide +kernel
theorem dL_law_265 : decode cL_law 265 = .ok (.iadd, 1) := by decide +kernel
theorem dL_law_266 : decode cL_law 266 = .ok (.iaload, 1) := by decide +kernel
theorem dL_law_267 : decode cL_law 267 = .ok (.aload_n 0, 1) := by decide +kernel
theorem dL_law_268 : decode cL_law 268 = .ok (.iload_n 3, 1) := by decide +kernel
theorem dL_law_269 : decode cL_law 269 = .ok (.iconst 2, 1) := by decide +kernel
theorem dL_law_270 : decode cL_law 270 = .ok (.iadd, 1) := by decide +kernel
theorem dL_law_271 : decode cL_law 271 = .ok (.iaload, 1) := by decide +kernel
theorem dL_law_272 : decode cL_law 272 = .ok (.invokevirtual 36, 3) := by decide +kernel
theorem dL_law_275 : decode cL_law 275 = .ok (.aload_n 2, 1) := by decide +kernel
theorem dL_law_276 : decode cL_law 276 = .ok (.aload_n 0, 1) := by decide +kernel
theorem dL_law_277 : decode cL_law 277 = .ok (.iload_n 3, 1) := by decide +kernel
theorem dL_law_278 : decode cL_law 278 = .ok (.iconst 1, 1) := by decide +kernel
theorem dL_law_279 : decode cL_law 279 = .ok (.iadd, 1) := by decide +kernel
theorem dL_law_280 : decode cL_law 280 = .ok (.iaload, 1) := by decide +kernel
theorem dL_law_281 : decode cL_law 281 = .ok (.aload_n 0, 1) := by decide +kernel
theorem dL_law_282 : decode cL_law 282 = .ok (.iload_n 3, 1) := by decide +kernel
theorem dL_law_283 : decode cL_law 283 = .ok (.iconst 2, 1) := by decide +kernel
theorem dL_law_284 : decode cL_law 284 = .ok (.iadd, 1) := by decide +kernel
theorem dL_law_285 : decode cL_law 285 = .ok (.iaload, 1) := by decide +kernel
theorem dL_law_286 : decode cL_law 286 = .ok (.invokevirtual 39, 3) := by decide +kernel
theorem dL_law_289 : decode cL_law 289 = .ok (.if_icmp .eq 143, 3) := by decide +kernel
theorem dL_law_292 : decode cL_law 292 = .ok (.iconst 0, 1) := by decide +kernel
theorem dL_law_293 : decode cL_law 293 = .ok (.ireturn, 1) := by decide +kernel
theorem dL_law_294 : decode cL_law 294 = .ok (.aload_n 1, 1) := by decide +kernel
theorem dL_law_295 : decode cL_law 295 = .ok (.aload_n 0, 1) := by decide +kernel
theorem dL_law_296 : decode cL_law 296 = .ok (.iload_n 3, 1) := by decide +kernel
theorem dL_law_297 : decode cL_law 297 = .ok (.iconst 1, 1) := by decide +kernel
theorem dL_law_298 : decode cL_law 298 = .ok (.iadd, 1) := by decide +kernel
theorem dL_law_299 : decode cL_law 299 = .ok (.iaload, 1) := by decide +kernel
theorem dL_law_300 : decode cL_law 300 = .ok (.invokevirtual 40, 3) := by decide +kernel
theorem dL_law_303 : decode cL_law 303 = .ok (.aload_n 2, 1) := by decide +kernel
theorem dL_law_304 : decode cL_law 304 = .ok (.aload_n 0, 1) := by decide +kernel
theorem dL_law_305 : decode cL_law 305 = .ok (.iload_n 3, 1) := by decide +kernel
theorem dL_law_306 : decode cL_law 306 = .ok (.iconst 1, 1) := by decide +kernel
theorem dL_law_307 : decode cL_law 307 = .ok (.iadd, 1) := by decide +kernel
theorem dL_law_308 : decode cL_law 308 = .ok (.iaload, 1) := by decide +kernel
theorem dL_law_309 : decode cL_law 309 = .ok (.invokevirtual 43, 3) := by decide +kernel
theorem dL_law_312 : decode cL_law 312 = .ok (.if_icmp .eq 120, 3) := by decide +kernel
theorem dL_law_315 : decode cL_law 315 = .ok (.iconst 0, 1) := by decide +kernel
theorem dL_law_316 : decode cL_law 316 = .ok (.ireturn, 1) := by decide +kernel
theorem dL_law_317 : decode cL_law 317 = .ok (.aload_n 1, 1) := by decide +kernel
theorem dL_law_318 : decode cL_law 318 = .ok (.invokevirtual 44, 3) := by decide +kernel
theorem dL_law_321 : decode cL_law 321 = .ok (.aload_n 2, 1) := by decide +kernel
theorem dL_law_322 : decode cL_law 322 = .ok (.invokevirtual 48, 3) := by decide +kernel
theorem dL_law_325 : decode cL_law 325 = .ok (.if_icmp .eq 107, 3) := by decide +kernel
theorem dL_law_328 : decode cL_law 328 = .ok (.iconst 0, 1) := by decide +kernel
theorem dL_law_329 : decode cL_law 329 = .ok (.ireturn, 1) := by decide +kernel
theorem dL_law_330 : decode cL_law 330 = .ok (.aload_n 1, 1) := by decide +kernel
theorem dL_law_331 : decode cL_law 331 = .ok (.aload_n 0, 1) := by decide +kernel
theorem dL_law_332 : decode cL_law 332 = .ok (.iload_n 3, 1) := by decide +kernel
theorem dL_law_333 : decode cL_law 333 = .ok (.iconst 1, 1) := by decide +kernel
theorem dL_law_334 : decode cL_law 334 = .ok (.iadd, 1) := by decide +kernel
theorem dL_law_335 : decode cL_law 335 = .ok (.iaload, 1) := by decide +kernel
theorem dL_law_336 : decode cL_law 336 = .ok (.aload_n 0, 1) := by decide +kernel
theorem dL_law_337 : decode cL_law 337 = .ok (.iload_n 3, 1) := by decide +kernel
theorem dL_law_338 : decode cL_law 338 = .ok (.iconst 2, 1) := by decide +kernel
theorem dL_law_339 : decode cL_law 339 = .ok (.iadd, 1) := by decide +kernel
theorem dL_law_340 : decode cL_law 340 = .ok (.iaload, 1) := by decide +kernel
theorem dL_law_341 : decode cL_law 341 = .ok (.invokevirtual 49, 3) := by decide +kernel
theorem dL_law_344 : decode cL_law 344 = .ok (.aload_n 2, 1) := by decide +kernel
theorem dL_law_345 : decode cL_law 345 = .ok (.aload_n 0, 1) := by decide +kernel
theorem dL_law_346 : decode cL_law 346 = .ok (.iload_n 3, 1) := by decide +kernel
theorem dL_law_347 : decode cL_law 347 = .ok (.iconst 1, 1) := by decide +kernel
theorem dL_law_348 : decode cL_law 348 = .ok (.iadd, 1) := by decide +kernel
theorem dL_law_349 : decode cL_law 349 = .ok (.iaload, 1) := by decide +kernel
theorem dL_law_350 : decode cL_law 350 = .ok (.aload_n 0, 1) := by decide +kernel
theorem dL_law_351 : decode cL_law 351 = .ok (.iload_n 3, 1) := by decide +kernel
theorem dL_law_352 : decode cL_law 352 = .ok (.iconst 2, 1) := by decide +kernel
theorem dL_law_353 : decode cL_law 353 = .ok (.iadd, 1) := by decide +kernel
theorem dL_law_354 : decode cL_law 354 = .ok (.iaload, 1) := by decide +kernel
theorem dL_law_355 : decode cL_law 355 = .ok (.invokevirtual 52, 3) := by decide +kernel
theorem dL_law_358 : decode cL_law 358 = .ok (.if_icmp .eq 74, 3) := by decide +kernel
theorem dL_law_361 : decode cL_law 361 = .ok (.iconst 0, 1) := by decide +kernel
theorem dL_law_362 : decode cL_law 362 = .ok (.ireturn, 1) := by decide +kernel
theorem dL_law_363 : decode cL_law 363 = .ok (.aload_n 1, 1) := by decide +kernel
theorem dL_law_364 : decode cL_law 364 = .ok (.aload_n 0, 1) := by decide +kernel
theorem dL_law_365 : decode cL_law 365 = .ok (.iload_n 3, 1) := by decide +kernel
theorem dL_law_366 : decode cL_law 366 = .ok (.iconst 1, 1) := by decide +kernel
theorem dL_law_367 : decode cL_law 367 = .ok (.iadd, 1) := by decide +kernel
theorem dL_law_368 : decode cL_law 368 = .ok (.iaload, 1) := by decide +kernel
theorem dL_law_369 : decode cL_law 369 = .ok (.aload_n 0, 1) := by decide +kernel
theorem dL_law_370 : decode cL_law 370 = .ok (.iload_n 3, 1) := by decide +kernel
theorem dL_law_371 : decode cL_law 371 = .ok (.iconst 2, 1) := by decide +kernel
theorem dL_law_372 : decode cL_law 372 = .ok (.iadd, 1) := by decide +kernel
theorem dL_law_373 : decode cL_law 373 = .ok (.iaload, 1) := by decide +kernel
theorem dL_law_374 : decode cL_law 374 = .ok (.invokevirtual 53, 3) := by decide +kernel
theorem dL_law_377 : decode cL_law 377 = .ok (.aload_n 2, 1) := by decide +kernel
theorem dL_law_378 : decode cL_law 378 = .ok (.aload_n 0, 1) := by decide +kernel
theorem dL_law_379 : decode cL_law 379 = .ok (.iload_n 3, 1) := by decide +kernel
theorem dL_law_380 : decode cL_law 380 = .ok (.iconst 1, 1) := by decide +kernel
theorem dL_law_381 : decode cL_law 381 = .ok (.iadd, 1) := by decide +kernel
theorem dL_law_382 : decode cL_law 382 = .ok (.iaload, 1) := by decide +kernel
theorem dL_law_383 : decode cL_law 383 = .ok (.aload_n 0, 1) := by decide +kernel
theorem dL_law_384 : decode cL_law 384 = .ok (.iload_n 3, 1) := by decide +kernel
theorem dL_law_385 : decode cL_law 385 = .ok (.iconst 2, 1) := by decide +kernel
theorem dL_law_386 : decode cL_law 386 = .ok (.iadd, 1) := by decide +kernel
theorem dL_law_387 : decode cL_law 387 = .ok (.iaload, 1) := by decide +kernel
theorem dL_law_388 : decode cL_law 388 = .ok (.invokevirtual 56, 3) := by decide +kernel
theorem dL_law_391 : decode cL_law 391 = .ok (.if_icmp .eq 41, 3) := by decide +kernel
theorem dL_law_394 : decode cL_law 394 = .ok (.iconst 0, 1) := by decide +kernel
theorem dL_law_395 : decode cL_law 395 = .ok (.ireturn, 1) := by decide +kernel
theorem dL_law_396 : decode cL_law 396 = .ok (.aload_n 1, 1) := by decide +kernel
theorem dL_law_397 : decode cL_law 397 = .ok (.aload_n 0, 1) := by decide +kernel
theorem dL_law_398 : decode cL_law 398 = .ok (.iload_n 3, 1) := by decide +kernel
theorem dL_law_399 : decode cL_law 399 = .ok (.iconst 1, 1) := by decide +kernel
theorem dL_law_400 : decode cL_law 400 = .ok (.iadd, 1) := by decide +kernel
theorem dL_law_401 : decode cL_law 401 = .ok (.iaload, 1) := by decide +kernel
theorem dL_law_402 : decode cL_law 402 = .ok (.invokevirtual 57, 3) := by decide +kernel
theorem dL_law_405 : decode cL_law 405 = .ok (.aload_n 2, 1) := by decide +kernel
theorem dL_law_406 : decode cL_law 406 = .ok (.aload_n 0, 1) := by decide +kernel
theorem dL_law_407 : decode cL_law 407 = .ok (.iload_n 3, 1) := by decide +kernel
theorem dL_law_408 : decode cL_law 408 = .ok (.iconst 1, 1) := by decide +kernel
theorem dL_law_409 : decode cL_law 409 = .ok (.iadd, 1) := by decide +kernel
theorem dL_law_410 : decode cL_law 410 = .ok (.iaload, 1) := by decide +kernel
theorem dL_law_411 : decode cL_law 411 = .ok (.invokevirtual 60, 3) := by decide +kernel
theorem dL_law_414 : decode cL_law 414 = .ok (.if_icmp .eq 18, 3) := by decide +kernel
theorem dL_law_417 : decode cL_law 417 = .ok (.iconst 0, 1) := by decide +kernel
theorem dL_law_418 : decode cL_law 418 = .ok (.ireturn, 1) := by decide +kernel
theorem dL_law_419 : decode cL_law 419 = .ok (.aload_n 1, 1) := by decide +kernel
theorem dL_law_420 : decode cL_law 420 = .ok (.invokevirtual 61, 3) := by decide +kernel
theorem dL_law_423 : decode cL_law 423 = .ok (.aload_n 2, 1) := by decide +kernel
theorem dL_law_424 : decode cL_law 424 = .ok (.invokevirtual 64, 3) := by decide +kernel
theorem dL_law_427 : decode cL_law 427 = .ok (.if_icmp .eq 5, 3) := by decide +kernel
theorem dL_law_430 : decode cL_law 430 = .ok (.iconst 0, 1) := by decide +kernel
theorem dL_law_431 : decode cL_law 431 = .ok (.ireturn, 1) := by decide +kernel
theorem dL_law_432 : decode cL_law 432 = .ok (.iinc 3 4, 3) := by decide +kernel
theorem dL_law_435 : decode cL_law 435 = .ok (.goto (-417), 3) := by decide +kernel
theorem dL_law_438 : decode cL_law 438 = .ok (.iconst 1, 1) := by decide +kernel
theorem dL_law_439 : decode cL_law 439 = .ok (.ireturn, 1) := by decide +kernel
end
section
theorem dX0_init_0 : decode cX0_init 0 = .ok (.aload_n 0, 1) := by decide +kernel
theorem dX0_init_1 : decode cX0_init 1 = .ok (.invokespecial 3, 3) := by decide +kernel
theorem dX0_init_4 : decode cX0_init 4 = .ok (.aload_n 0, 1) := by decide +kernel
theorem dX0_init_5 : decode cX0_init 5 = .ok (.bipush 8, 2) := by decide +kernel
theorem dX0_init_7 : decode cX0_init 7 = .ok (.newarray .int, 2) := by decide +kernel
theorem dX0_init_9 : decode cX0_init 9 = .ok (.putfield 9, 3) := by decide +kernel
theorem dX0_init_12 : decode cX0_init 12 = .ok (.aload_n 0, 1) := by decide +kernel
theorem dX0_init_13 : decode cX0_init 13 = .ok (.bipush 8, 2) := by decide +kernel
theorem dX0_init_15 : decode cX0_init 15 = .ok (.newarray .int, 2) := by decide +kernel
theorem dX0_init_17 : decode cX0_init 17 = .ok (.putfield 15, 3) := by decide +kernel
theorem dX0_init_20 : decode cX0_init 20 = .ok (.return_, 1) := by decide +kernel
theorem dX0_forget_0 : decode cX0_forget 0 = .ok (.iconst 0, 1) := by decide +kernel
theorem dX0_forget_1 : decode cX0_forget 1 = .ok (.istore_n 1, 1) := by decide +kernel
theorem dX0_forget_2 : decode cX0_forget 2 = .ok (.iload_n 1, 1) := by decide +kernel
theorem dX0_forget_3 : decode cX0_forget 3 = .ok (.bipush 8, 2) := by decide +kernel
theorem dX0_forget_5 : decode cX0_forget 5 = .ok (.if_icmp .ge 23, 3) := by decide +kernel
theorem dX0_forget_8 : decode cX0_forget 8 = .ok (.aload_n 0, 1) := by decide +kernel
theorem dX0_forget_9 : decode cX0_forget 9 = .ok (.getfield 9, 3) := by decide +kernel
theorem dX0_forget_12 : decode cX0_forget 12 = .ok (.iload_n 1, 1) := by decide +kernel
theorem dX0_forget_13 : decode cX0_forget 13 = .ok (.iconst 0, 1) := by decide +kernel
theorem dX0_forget_14 : decode cX0_forget 14 = .ok (.iastore, 1) := by decide +kernel
theorem dX0_forget_15 : decode cX0_forget 15 = .ok (.aload_n 0, 1) := by decide +kernel
theorem dX0_forget_16 : decode cX0_forget 16 = .ok (.getfield 15, 3) := by decide +kernel
theorem dX0_forget_19 : decode cX0_forget 19 = .ok (.iload_n 1, 1) := by decide +kernel
theorem dX0_forget_20 : decode cX0_forget 20 = .ok (.iconst 0, 1) := by decide +kernel
theorem dX0_forget_21 : decode cX0_forget 21 = .ok (.iastore, 1) := by decide +kernel
theorem dX0_forget_22 : decode cX0_forget 22 = .ok (.iinc 1 1, 3) := by decide +kernel
theorem dX0_forget_25 : decode cX0_forget 25 = .ok (.goto (-23), 3) := by decide +kernel
theorem dX0_forget_28 : decode cX0_forget 28 = .ok (.aload_n 0, 1) := by decide +kernel
theorem dX0_forget_29 : decode cX0_forget 29 = .ok (.iconst 0, 1) := by decide +kernel
theorem dX0_forget_30 : decode cX0_forget 30 = .ok (.putfield 18, 3) := by decide +kernel
theorem dX0_forget_33 : decode cX0_forget 33 = .ok (.aload_n 0, 1) := by decide +kernel
theorem dX0_forget_34 : decode cX0_forget 34 = .ok (.iconst 0, 1) := by decide +kernel
theorem dX0_forget_35 : decode cX0_forget 35 = .ok (.putfield 22, 3) := by decide +kernel
theorem dX0_forget_38 : decode cX0_forget 38 = .ok (.return_, 1) := by decide +kernel
theorem dX0_look_0 : decode cX0_look 0 = .ok (.aload_n 1, 1) := by decide +kernel
theorem dX0_look_1 : decode cX0_look 1 = .ok (.invokestatic 26, 3) := by decide +kernel
theorem dX0_look_4 : decode cX0_look 4 = .ok (.istore_n 2, 1) := by decide +kernel
theorem dX0_look_5 : decode cX0_look 5 = .ok (.aload_n 0, 1) := by decide +kernel
theorem dX0_look_6 : decode cX0_look 6 = .ok (.aload_n 0, 1) := by decide +kernel
theorem dX0_look_7 : decode cX0_look 7 = .ok (.aload_n 1, 1) := by decide +kernel
theorem dX0_look_8 : decode cX0_look 8 = .ok (.iload_n 2, 1) := by decide +kernel
theorem dX0_look_9 : decode cX0_look 9 = .ok (.invokevirtual 30, 3) := by decide +kernel
theorem dX0_look_12 : decode cX0_look 12 = .ok (.putfield 22, 3) := by decide +kernel
theorem dX0_look_15 : decode cX0_look 15 = .ok (.aload_n 0, 1) := by decide +kernel
theorem dX0_look_16 : decode cX0_look 16 = .ok (.iload_n 2, 1) := by decide +kernel
theorem dX0_look_17 : decode cX0_look 17 = .ok (.putfield 18, 3) := by decide +kernel
theorem dX0_look_20 : decode cX0_look 20 = .ok (.iconst 0, 1) := by decide +kernel
theorem dX0_look_21 : decode cX0_look 21 = .ok (.istore_n 3, 1) := by decide +kernel
theorem dX0_look_22 : decode cX0_look 22 = .ok (.iload_n 3, 1) := by decide +kernel
theorem dX0_look_23 : decode cX0_look 23 = .ok (.bipush 8, 2) := by decide +kernel
theorem dX0_look_25 : decode cX0_look 25 = .ok (.if_icmp .ge 43, 3) := by decide +kernel
theorem dX0_look_28 : decode cX0_look 28 = .ok (.aload_n 0, 1) := by decide +kernel
theorem dX0_look_29 : decode cX0_look 29 = .ok (.getfield 9, 3) := by decide +kernel
theorem dX0_look_32 : decode cX0_look 32 = .ok (.iload_n 3, 1) := by decide +kernel
theorem dX0_look_33 : decode cX0_look 33 = .ok (.aload_n 1, 1) := by decide +kernel
theorem dX0_look_34 : decode cX0_look 34 = .ok (.iload_n 3, 1) := by decide +kernel
theorem dX0_look_35 : decode cX0_look 35 = .ok (.iaload, 1) := by decide +kernel
theorem dX0_look_36 : decode cX0_look 36 = .ok (.iastore, 1) := by decide +kernel
theorem dX0_look_37 : decode cX0_look 37 = .ok (.aload_n 0, 1) := by decide +kernel
theorem dX0_look_38 : decode cX0_look 38 = .ok (.getfield 15, 3) := by decide +kernel
theorem dX0_look_41 : decode cX0_look 41 = .ok (.iload_n 3, 1) := by decide +kernel
theorem dX0_look_42 : decode cX0_look 42 = .ok (.aload_n 1, 1) := by decide +kernel
theorem dX0_look_43 : decode cX0_look 43 = .ok (.iload_n 3, 1) := by decide +kernel
theorem dX0_look_44 : decode cX0_look 44 = .ok (.iaload, 1) := by decide +kernel
theorem dX0_look_45 : decode cX0_look 45 = .ok (.iconst 1, 1) := by decide +kernel
theorem dX0_look_46 : decode cX0_look 46 = .ok (.if_icmp .ne 14, 3) := by decide +kernel
theorem dX0_look_49 : decode cX0_look 49 = .ok (.aload_n 0, 1) := by decide +kernel
theorem dX0_look_50 : decode cX0_look 50 = .ok (.getfield 15, 3) := by decide +kernel
theorem dX0_look_53 : decode cX0_look 53 = .ok (.iload_n 3, 1) := by decide +kernel
theorem dX0_look_54 : decode cX0_look 54 = .ok (.iaload, 1) := by decide +kernel
theorem dX0_look_55 : decode cX0_look 55 = .ok (.iconst 1, 1) := by decide +kernel
theorem dX0_look_56 : decode cX0_look 56 = .ok (.iadd, 1) := by decide +kernel
theorem dX0_look_57 : decode cX0_look 57 = .ok (.goto 4, 3) := by decide +kernel
theorem dX0_look_60 : decode cX0_look 60 = .ok (.iconst 0, 1) := by decide +kernel
theorem dX0_look_61 : decode cX0_look 61 = .ok (.iastore, 1) := by decide +kernel
theorem dX0_look_62 : decode cX0_look 62 = .ok (.iinc 3 1, 3) := by decide +kernel
theorem dX0_look_65 : decode cX0_look 65 = .ok (.goto (-43), 3) := by decide +kernel
theorem dX0_look_68 : decode cX0_look 68 = .ok (.return_, 1) := by decide +kernel
theorem dX0_leastFault_0 : decode cX0_leastFault 0 = .ok (.iload_n 2, 1) := by decide +kernel
theorem dX0_leastFault_1 : decode cX0_leastFault 1 = .ok (.ifCond .eq 12, 3) := by decide +kernel
theorem dX0_leastFault_4 : decode cX0_leastFault 4 = .ok (.aload_n 0, 1) := by decide +kernel
theorem dX0_leastFault_5 : decode cX0_leastFault 5 = .ok (.getfield 18, 3) := by decide +kernel
theorem dX0_leastFault_8 : decode cX0_leastFault 8 = .ok (.ifCond .eq 5, 3) := by decide +kernel
theorem dX0_leastFault_11 : decode cX0_leastFault 11 = .ok (.iconst 1, 1) := by decide +kernel
theorem dX0_leastFault_12 : decode cX0_leastFault 12 = .ok (.ireturn, 1) := by decide +kernel
theorem dX0_leastFault_13 : decode cX0_leastFault 13 = .ok (.iconst 0, 1) := by decide +kernel
theorem dX0_leastFault_14 : decode cX0_leastFault 14 = .ok (.istore_n 3, 1) := by decide +kernel
theorem dX0_leastFault_15 : decode cX0_leastFault 15 = .ok (.iconst 0, 1) := by decide +kernel
theorem dX0_leastFault_16 : decode cX0_leastFault 16 = .ok (.istore 4, 2) := by decide +kernel
theorem dX0_leastFault_18 : decode cX0_leastFault 18 = .ok (.iload 4, 2) := by decide +kernel
theorem dX0_leastFault_20 : decode cX0_leastFault 20 = .ok (.bipush 8, 2) := by decide +kernel
theorem dX0_leastFault_22 : decode cX0_leastFault 22 = .ok (.if_icmp .ge 47, 3) := by decide +kernel
theorem dX0_leastFault_25 : decode cX0_leastFault 25 = .ok (.aload_n 1, 1) := by decide +kernel
theorem dX0_leastFault_26 : decode cX0_leastFault 26 = .ok (.iload 4, 2) := by decide +kernel
theorem dX0_leastFault_28 : decode cX0_leastFault 28 = .ok (.iaload, 1) := by decide +kernel
theorem dX0_leastFault_29 : decode cX0_leastFault 29 = .ok (.ifCond .ne 16, 3) := by decide +kernel
theorem dX0_leastFault_32 : decode cX0_leastFault 32 = .ok (.aload_n 0, 1) := by decide +kernel
theorem dX0_leastFault_33 : decode cX0_leastFault 33 = .ok (.getfield 9, 3) := by decide +kernel
theorem dX0_leastFault_36 : decode cX0_leastFault 36 = .ok (.iload 4, 2) := by decide +kernel
theorem dX0_leastFault_38 : decode cX0_leastFault 38 = .ok (.iaload, 1) := by decide +kernel
theorem dX0_leastFault_39 : decode cX0_leastFault 39 = .ok (.iconst 2, 1) := by decide +kernel
theorem dX0_leastFault_40 : decode cX0_leastFault 40 = .ok (.if_icmp .ne 5, 3) := by decide +kernel
theorem dX0_leastFault_43 : decode cX0_leastFault 43 = .ok (.iconst 2, 1) := by decide +kernel
theorem dX0_leastFault_44 : decode cX0_leastFault 44 = .ok (.ireturn, 1) := by decide +kernel
theorem dX0_leastFault_45 : decode cX0_leastFault 45 = .ok (.aload_n 1, 1) := by decide +kernel
theorem dX0_leastFault_46 : decode cX0_leastFault 46 = .ok (.iload 4, 2) := by decide +kernel
theorem dX0_leastFault_48 : decode cX0_leastFault 48 = .ok (.iaload, 1) := by decide +kernel
theorem dX0_leastFault_49 : decode cX0_leastFault 49 = .ok (.ifCond .ne 14, 3) := by decide +kernel
theorem dX0_leastFault_52 : decode cX0_leastFault 52 = .ok (.aload_n 0, 1) := by decide +kernel
theorem dX0_leastFault_53 : decode cX0_leastFault 53 = .ok (.iload 4, 2) := by decide +kernel
theorem dX0_leastFault_55 : decode cX0_leastFault 55 = .ok (.invokevirtual 34, 3) := by decide +kernel
theorem dX0_leastFault_58 : decode cX0_leastFault 58 = .ok (.ifCond .eq 5, 3) := by decide +kernel
theorem dX0_leastFault_61 : decode cX0_leastFault 61 = .ok (.iconst 3, 1) := by decide +kernel
theorem dX0_leastFault_62 : decode cX0_leastFault 62 = .ok (.istore_n 3, 1) := by decide +kernel
theorem dX0_leastFault_63 : decode cX0_leastFault 63 = .ok (.iinc 4 1, 3) := by decide +kernel
theorem dX0_leastFault_66 : decode cX0_leastFault 66 = .ok (.goto (-48), 3) := by decide +kernel
theorem dX0_leastFault_69 : decode cX0_leastFault 69 = .ok (.iload_n 3, 1) := by decide +kernel
theorem dX0_leastFault_70 : decode cX0_leastFault 70 = .ok (.ireturn, 1) := by decide +kernel
theorem dX0_hadShortYellow_0 : decode cX0_hadShortYellow 0 = .ok (.aload_n 0, 1) := by decide +kernel
theorem dX0_hadShortYellow_1 : decode cX0_hadShortYellow 1 = .ok (.getfield 9, 3) := by decide +kernel
theorem dX0_hadShortYellow_4 : decode cX0_hadShortYellow 4 = .ok (.iload_n 1, 1) := by decide +kernel
theorem dX0_hadShortYellow_5 : decode cX0_hadShortYellow 5 = .ok (.iaload, 1) := by decide +kernel
theorem dX0_hadShortYellow_6 : decode cX0_hadShortYellow 6 = .ok (.iconst 1, 1) := by decide +kernel
theorem dX0_hadShortYellow_7 : decode cX0_hadShortYellow 7 = .ok (.if_icmp .ne 17, 3) := by decide +kernel
theorem dX0_hadShortYellow_10 : decode cX0_hadShortYellow 10 = .ok (.aload_n 0, 1) := by decide +kernel
theorem dX0_hadShortYellow_11 : decode cX0_hadShortYellow 11 = .ok (.getfield 15, 3) := by decide +kernel
theorem dX0_hadShortYellow_14 : decode cX0_hadShortYellow 14 = .ok (.iload_n 1, 1) := by decide +kernel
theorem dX0_hadShortYellow_15 : decode cX0_hadShortYellow 15 = .ok (.iaload, 1) := by decide +kernel
theorem dX0_hadShortYellow_16 : decode cX0_hadShortYellow 16 = .ok (.iconst 3, 1) := by decide +kernel
theorem dX0_hadShortYellow_17 : decode cX0_hadShortYellow 17 = .ok (.if_icmp .ge 7, 3) := by decide +kernel
theorem dX0_hadShortYellow_20 : decode cX0_hadShortYellow 20 = .ok (.iconst 1, 1) := by decide +kernel
theorem dX0_hadShortYellow_21 : decode cX0_hadShortYellow 21 = .ok (.goto 4, 3) := by decide +kernel
theorem dX0_hadShortYellow_24 : decode cX0_hadShortYellow 24 = .ok (.iconst 0, 1) := by decide +kernel
theorem dX0_hadShortYellow_25 : decode cX0_hadShortYellow 25 = .ok (.ireturn, 1) := by decide +kernel
end
section
theorem dX1_init_0 : decode cX1_init 0 = .ok (.aload_n 0, 1) := by decide +kernel
theorem dX1_init_1 : decode cX1_init 1 = .ok (.invokespecial 3, 3) := by decide +kernel
theorem dX1_init_4 : decode cX1_init 4 = .ok (.aload_n 0, 1) := by decide +kernel
theorem dX1_init_5 : decode cX1_init 5 = .ok (.getstatic 9, 3) := by decide +kernel
theorem dX1_init_8 : decode cX1_init 8 = .ok (.invokevirtual 13, 3) := by decide +kernel
theorem dX1_init_11 : decode cX1_init 11 = .ok (.checkcast 14, 3) := by decide +kernel
theorem dX1_init_14 : decode cX1_init 14 = .ok (.putfield 18, 3) := by decide +kernel
theorem dX1_init_17 : decode cX1_init 17 = .ok (.aload_n 0, 1) := by decide +kernel
theorem dX1_init_18 : decode cX1_init 18 = .ok (.iconst 3, 1) := by decide +kernel
theorem dX1_init_19 : decode cX1_init 19 = .ok (.putfield 23, 3) := by decide +kernel
theorem dX1_init_22 : decode cX1_init 22 = .ok (.aload_n 0, 1) := by decide +kernel
theorem dX1_init_23 : decode cX1_init 23 = .ok (.iconst (-1), 1) := by decide +kernel
theorem dX1_init_24 : decode cX1_init 24 = .ok (.putfield 27, 3) := by decide +kernel
theorem dX1_init_27 : decode cX1_init 27 = .ok (.return_, 1) := by decide +kernel
theorem dX1_has_0 : decode cX1_has 0 = .ok (.aload_n 0, 1) := by decide +kernel
theorem dX1_has_1 : decode cX1_has 1 = .ok (.getfield 23, 3) := by decide +kernel
theorem dX1_has_4 : decode cX1_has 4 = .ok (.iload_n 1, 1) := by decide +kernel
theorem dX1_has_5 : decode cX1_has 5 = .ok (.iand, 1) := by decide +kernel
theorem dX1_has_6 : decode cX1_has 6 = .ok (.ifCond .eq 7, 3) := by decide +kernel
theorem dX1_has_9 : decode cX1_has 9 = .ok (.iconst 1, 1) := by decide +kernel
theorem dX1_has_10 : decode cX1_has 10 = .ok (.goto 4, 3) := by decide +kernel
theorem dX1_has_13 : decode cX1_has 13 = .ok (.iconst 0, 1) := by decide +kernel
theorem dX1_has_14 : decode cX1_has 14 = .ok (.ireturn, 1) := by decide +kernel
theorem dX1_isWanted_0 : decode cX1_isWanted 0 = .ok (.aload_n 0, 1) := by decide +kernel
theorem dX1_isWanted_1 : decode cX1_isWanted 1 = .ok (.getfield 30, 3) := by decide +kernel
theorem dX1_isWanted_4 : decode cX1_isWanted 4 = .ok (.ifCond .ne 17, 3) := by decide +kernel
theorem dX1_isWanted_7 : decode cX1_isWanted 7 = .ok (.aload_n 0, 1) := by decide +kernel
theorem dX1_isWanted_8 : decode cX1_isWanted 8 = .ok (.getfield 34, 3) := by decide +kernel
theorem dX1_isWanted_11 : decode cX1_isWanted 11 = .ok (.ifCond .ne 10, 3) := by decide +kernel
theorem dX1_isWanted_14 : decode cX1_isWanted 14 = .ok (.aload_n 0, 1) := by decide +kernel
theorem dX1_isWanted_15 : decode cX1_isWanted 15 = .ok (.getfield 37, 3) := by decide +kernel
theorem dX1_isWanted_18 : decode cX1_isWanted 18 = .ok (.ifCond .eq 7, 3) := by decide +kernel
theorem dX1_isWanted_21 : decode cX1_isWanted 21 = .ok (.iconst 1, 1) := by decide +kernel
theorem dX1_isWanted_22 : decode cX1_isWanted 22 = .ok (.goto 4, 3) := by decide +kernel
theorem dX1_isWanted_25 : decode cX1_isWanted 25 = .ok (.iconst 0, 1) := by decide +kernel
theorem dX1_isWanted_26 : decode cX1_isWanted 26 = .ok (.istore_n 1, 1) := by decide +kernel
theorem dX1_isWanted_27 : decode cX1_isWanted 27 = .ok (.aload_n 0, 1) := by decide +kernel
theorem dX1_isWanted_28 : decode cX1_isWanted 28 = .ok (.iconst 1, 1) := by decide +kernel
theorem dX1_isWanted_29 : decode cX1_isWanted 29 = .ok (.invokevirtual 40, 3) := by decide +kernel
theorem dX1_isWanted_32 : decode cX1_isWanted 32 = .ok (.ifCond .eq 20, 3) := by decide +kernel
theorem dX1_isWanted_35 : decode cX1_isWanted 35 = .ok (.iload_n 1, 1) := by decide +kernel
theorem dX1_isWanted_36 : decode cX1_isWanted 36 = .ok (.ifCond .ne 12, 3) := by decide +kernel
theorem dX1_isWanted_39 : decode cX1_isWanted 39 = .ok (.aload_n 0, 1) := by decide +kernel
theorem dX1_isWanted_40 : decode cX1_isWanted 40 = .ok (.bipush 28, 2) := by decide +kernel
theorem dX1_isWanted_42 : decode cX1_isWanted 42 = .ok (.invokevirtual 40, 3) := by decide +kernel
theorem dX1_isWanted_45 : decode cX1_isWanted 45 = .ok (.ifCond .eq 7, 3) := by decide +kernel
theorem dX1_isWanted_48 : decode cX1_isWanted 48 = .ok (.iconst 1, 1) := by decide +kernel
theorem dX1_isWanted_49 : decode cX1_isWanted 49 = .ok (.goto 4, 3) := by decide +kernel
theorem dX1_isWanted_52 : decode cX1_isWanted 52 = .ok (.iconst 0, 1) := by decide +kernel
theorem dX1_isWanted_53 : decode cX1_isWanted 53 = .ok (.ireturn, 1) := by decide +kernel
theorem dX1_comesAlong_0 : decode cX1_comesAlong 0 = .ok (.aload_n 0, 1) := by decide +kernel
theorem dX1_comesAlong_1 : decode cX1_comesAlong 1 = .ok (.iconst 1, 1) := by decide +kernel
theorem dX1_comesAlong_2 : decode cX1_comesAlong 2 = .ok (.invokevirtual 40, 3) := by decide +kernel
theorem dX1_comesAlong_5 : decode cX1_comesAlong 5 = .ok (.ifCond .eq 16, 3) := by decide +kernel
theorem dX1_comesAlong_8 : decode cX1_comesAlong 8 = .ok (.aload_n 0, 1) := by decide +kernel
theorem dX1_comesAlong_9 : decode cX1_comesAlong 9 = .ok (.bipush 32, 2) := by decide +kernel
theorem dX1_comesAlong_11 : decode cX1_comesAlong 11 = .ok (.invokevirtual 40, 3) := by decide +kernel
theorem dX1_comesAlong_14 : decode cX1_comesAlong 14 = .ok (.ifCond .eq 7, 3) := by decide +kernel
theorem dX1_comesAlong_17 : decode cX1_comesAlong 17 = .ok (.iconst 1, 1) := by decide +kernel
theorem dX1_comesAlong_18 : decode cX1_comesAlong 18 = .ok (.goto 4, 3) := by decide +kernel
theorem dX1_comesAlong_21 : decode cX1_comesAlong 21 = .ok (.iconst 0, 1) := by decide +kernel
theorem dX1_comesAlong_22 : decode cX1_comesAlong 22 = .ok (.ireturn, 1) := by decide +kernel
theorem dX1_wouldWalk_0 : decode cX1_wouldWalk 0 = .ok (.aload_n 0, 1) := by decide +kernel
theorem dX1_wouldWalk_1 : decode cX1_wouldWalk 1 = .ok (.getfield 18, 3) := by decide +kernel
theorem dX1_wouldWalk_4 : decode cX1_wouldWalk 4 = .ok (.iconst 5, 1) := by decide +kernel
theorem dX1_wouldWalk_5 : decode cX1_wouldWalk 5 = .ok (.iaload, 1) := by decide +kernel
theorem dX1_wouldWalk_6 : decode cX1_wouldWalk 6 = .ok (.ifCond .le 23, 3) := by decide +kernel
theorem dX1_wouldWalk_9 : decode cX1_wouldWalk 9 = .ok (.aload_n 0, 1) := by decide +kernel
theorem dX1_wouldWalk_10 : decode cX1_wouldWalk 10 = .ok (.getfield 37, 3) := by decide +kernel
theorem dX1_wouldWalk_13 : decode cX1_wouldWalk 13 = .ok (.ifCond .ne 12, 3) := by decide +kernel
theorem dX1_wouldWalk_16 : decode cX1_wouldWalk 16 = .ok (.aload_n 0, 1) := by decide +kernel
theorem dX1_wouldWalk_17 : decode cX1_wouldWalk 17 = .ok (.bipush 16, 2) := by decide +kernel
theorem dX1_wouldWalk_19 : decode cX1_wouldWalk 19 = .ok (.invokevirtual 40, 3) := by decide +kernel
theorem dX1_wouldWalk_22 : decode cX1_wouldWalk 22 = .ok (.ifCond .eq 7, 3) := by decide +kernel
theorem dX1_wouldWalk_25 : decode cX1_wouldWalk 25 = .ok (.iconst 1, 1) := by decide +kernel
theorem dX1_wouldWalk_26 : decode cX1_wouldWalk 26 = .ok (.goto 4, 3) := by decide +kernel
theorem dX1_wouldWalk_29 : decode cX1_wouldWalk 29 = .ok (.iconst 0, 1) := by decide +kernel
theorem dX1_wouldWalk_30 : decode cX1_wouldWalk 30 = .ok (.ireturn, 1) := by decide +kernel
theorem dX1_countWait_0 : decode cX1_countWait 0 = .ok (.aload_n 0, 1) := by decide +kernel
theorem dX1_countWait_1 : decode cX1_countWait 1 = .ok (.iload_n 1, 1) := by decide +kernel
theorem dX1_countWait_2 : decode cX1_countWait 2 = .ok (.ifCond .eq 12, 3) := by decide +kernel
theorem dX1_countWait_5 : decode cX1_countWait 5 = .ok (.aload_n 0, 1) := by decide +kernel
theorem dX1_countWait_6 : decode cX1_countWait 6 = .ok (.getfield 44, 3) := by decide +kernel
theorem dX1_countWait_9 : decode cX1_countWait 9 = .ok (.iconst 1, 1) := by decide +kernel
theorem dX1_countWait_10 : decode cX1_countWait 10 = .ok (.iadd, 1) := by decide +kernel
theorem dX1_countWait_11 : decode cX1_countWait 11 = .ok (.goto 4, 3) := by decide +kernel
theorem dX1_countWait_14 : decode cX1_countWait 14 = .ok (.iconst 0, 1) := by decide +kernel
theorem dX1_countWait_15 : decode cX1_countWait 15 = .ok (.putfield 44, 3) := by decide +kernel
theorem dX1_countWait_18 : decode cX1_countWait 18 = .ok (.aload_n 0, 1) := by decide +kernel
theorem dX1_countWait_19 : decode cX1_countWait 19 = .ok (.aload_n 0, 1) := by decide +kernel
theorem dX1_countWait_20 : decode cX1_countWait 20 = .ok (.getfield 47, 3) := by decide +kernel
theorem dX1_countWait_23 : decode cX1_countWait 23 = .ok (.aload_n 0, 1) := by decide +kernel
theorem dX1_countWait_24 : decode cX1_countWait 24 = .ok (.getfield 44, 3) := by decide +kernel
theorem dX1_countWait_27 : decode cX1_countWait 27 = .ok (.invokestatic 50, 3) := by decide +kernel
theorem dX1_countWait_30 : decode cX1_countWait 30 = .ok (.putfield 47, 3) := by decide +kernel
theorem dX1_countWait_33 : decode cX1_countWait 33 = .ok (.return_, 1) := by decide +kernel
theorem dX1_beginGreen_0 : decode cX1_beginGreen 0 = .ok (.aload_n 0, 1) := by decide +kernel
theorem dX1_beginGreen_1 : decode cX1_beginGreen 1 = .ok (.iconst 0, 1) := by decide +kernel
theorem dX1_beginGreen_2 : decode cX1_beginGreen 2 = .ok (.putfield 34, 3) := by decide +kernel
theorem dX1_beginGreen_5 : decode cX1_beginGreen 5 = .ok (.aload_n 0, 1) := by decide +kernel
theorem dX1_beginGreen_6 : decode cX1_beginGreen 6 = .ok (.iconst 0, 1) := by decide +kernel
theorem dX1_beginGreen_7 : decode cX1_beginGreen 7 = .ok (.putfield 37, 3) := by decide +kernel
theorem dX1_beginGreen_10 : decode cX1_beginGreen 10 = .ok (.aload_n 0, 1) := by decide +kernel
theorem dX1_beginGreen_11 : decode cX1_beginGreen 11 = .ok (.dup, 1) := by decide +kernel
theorem dX1_beginGreen_12 : decode cX1_beginGreen 12 = .ok (.getfield 56, 3) := by decide +kernel
theorem dX1_beginGreen_15 : decode cX1_beginGreen 15 = .ok (.iconst 1, 1) := by decide +kernel
theorem dX1_beginGreen_16 : decode cX1_beginGreen 16 = .ok (.iadd, 1) := by decide +kernel
theorem dX1_beginGreen_17 : decode cX1_beginGreen 17 = .ok (.putfield 56, 3) := by decide +kernel
theorem dX1_beginGreen_20 : decode cX1_beginGreen 20 = .ok (.return_, 1) := by decide +kernel
end
section
theorem dX2_init_0 : decode cX2_init 0 = .ok (.aload_n 0, 1) := by decide +kernel
theorem dX2_init_1 : decode cX2_init 1 = .ok (.invokespecial 3, 3) := by decide +kernel
theorem dX2_init_4 : decode cX2_init 4 = .ok (.aload_n 0, 1) := by decide +kernel
theorem dX2_init_5 : decode cX2_init 5 = .ok (.iload_n 1, 1) := by decide +kernel
theorem dX2_init_6 : decode cX2_init 6 = .ok (.putfield 9, 3) := by decide +kernel
theorem dX2_init_9 : decode cX2_init 9 = .ok (.aload_n 0, 1) := by decide +kernel
theorem dX2_init_10 : decode cX2_init 10 = .ok (.iconst 2, 1) := by decide +kernel
theorem dX2_init_11 : decode cX2_init 11 = .ok (.newarray .boolean, 2) := by decide +kernel
theorem dX2_init_13 : decode cX2_init 13 = .ok (.putfield 15, 3) := by decide +kernel
theorem dX2_init_16 : decode cX2_init 16 = .ok (.aload_n 0, 1) := by decide +kernel
theorem dX2_init_17 : decode cX2_init 17 = .ok (.iconst (-1), 1) := by decide +kernel
theorem dX2_init_18 : decode cX2_init 18 = .ok (.putfield 19, 3) := by decide +kernel
theorem dX2_init_21 : decode cX2_init 21 = .ok (.aload_n 0, 1) := by decide +kernel
theorem dX2_init_22 : decode cX2_init 22 = .ok (.iconst 0, 1) := by decide +kernel
theorem dX2_init_23 : decode cX2_init 23 = .ok (.putfield 22, 3) := by decide +kernel
theorem dX2_init_26 : decode cX2_init 26 = .ok (.aload_n 0, 1) := by decide +kernel
theorem dX2_init_27 : decode cX2_init 27 = .ok (.iconst (-1), 1) := by decide +kernel
theorem dX2_init_28 : decode cX2_init 28 = .ok (.putfield 25, 3) := by decide +kernel
theorem dX2_init_31 : decode cX2_init 31 = .ok (.return_, 1) := by decide +kernel
theorem dX2_first_0 : decode cX2_first 0 = .ok (.aload_n 0, 1) := by decide +kernel
theorem dX2_first_1 : decode cX2_first 1 = .ok (.getfield 9, 3) := by decide +kernel
theorem dX2_first_4 : decode cX2_first 4 = .ok (.iconst 2, 1) := by decide +kernel
theorem dX2_first_5 : decode cX2_first 5 = .ok (.iload_n 1, 1) := by decide +kernel
theorem dX2_first_6 : decode cX2_first 6 = .ok (.imul, 1) := by decide +kernel
theorem dX2_first_7 : decode cX2_first 7 = .ok (.iadd, 1) := by decide +kernel
theorem dX2_first_8 : decode cX2_first 8 = .ok (.aload_n 0, 1) := by decide +kernel
theorem dX2_first_9 : decode cX2_first 9 = .ok (.getfield 15, 3) := by decide +kernel
theorem dX2_first_12 : decode cX2_first 12 = .ok (.iload_n 1, 1) := by decide +kernel
theorem dX2_first_13 : decode cX2_first 13 = .ok (.baload, 1) := by decide +kernel
theorem dX2_first_14 : decode cX2_first 14 = .ok (.ifCond .eq 7, 3) := by decide +kernel
theorem dX2_first_17 : decode cX2_first 17 = .ok (.iconst 1, 1) := by decide +kernel
theorem dX2_first_18 : decode cX2_first 18 = .ok (.goto 4, 3) := by decide +kernel
theorem dX2_first_21 : decode cX2_first 21 = .ok (.iconst 0, 1) := by decide +kernel
theorem dX2_first_22 : decode cX2_first 22 = .ok (.iadd, 1) := by decide +kernel
theorem dX2_first_23 : decode cX2_first 23 = .ok (.ireturn, 1) := by decide +kernel
theorem dX2_second_0 : decode cX2_second 0 = .ok (.aload_n 0, 1) := by decide +kernel
theorem dX2_second_1 : decode cX2_second 1 = .ok (.getfield 9, 3) := by decide +kernel
theorem dX2_second_4 : decode cX2_second 4 = .ok (.iconst 2, 1) := by decide +kernel
theorem dX2_second_5 : decode cX2_second 5 = .ok (.iload_n 1, 1) := by decide +kernel
theorem dX2_second_6 : decode cX2_second 6 = .ok (.imul, 1) := by decide +kernel
theorem dX2_second_7 : decode cX2_second 7 = .ok (.iadd, 1) := by decide +kernel
theorem dX2_second_8 : decode cX2_second 8 = .ok (.aload_n 0, 1) := by decide +kernel
theorem dX2_second_9 : decode cX2_second 9 = .ok (.getfield 15, 3) := by decide +kernel
theorem dX2_second_12 : decode cX2_second 12 = .ok (.iload_n 1, 1) := by decide +kernel
theorem dX2_second_13 : decode cX2_second 13 = .ok (.baload, 1) := by decide +kernel
theorem dX2_second_14 : decode cX2_second 14 = .ok (.ifCond .eq 7, 3) := by decide +kernel
theorem dX2_second_17 : decode cX2_second 17 = .ok (.iconst 0, 1) := by decide +kernel
theorem dX2_second_18 : decode cX2_second 18 = .ok (.goto 4, 3) := by decide +kernel
theorem dX2_second_21 : decode cX2_second 21 = .ok (.iconst 1, 1) := by decide +kernel
theorem dX2_second_22 : decode cX2_second 22 = .ok (.iadd, 1) := by decide +kernel
theorem dX2_second_23 : decode cX2_second 23 = .ok (.ireturn, 1) := by decide +kernel
theorem dX2_isBusyWith_0 : decode cX2_isBusyWith 0 = .ok (.aload_n 0, 1) := by decide +kernel
theorem dX2_isBusyWith_1 : decode cX2_isBusyWith 1 = .ok (.getfield 19, 3) := by decide +kernel
theorem dX2_isBusyWith_4 : decode cX2_isBusyWith 4 = .ok (.iload_n 1, 1) := by decide +kernel
theorem dX2_isBusyWith_5 : decode cX2_isBusyWith 5 = .ok (.if_icmp .eq 11, 3) := by decide +kernel
theorem dX2_isBusyWith_8 : decode cX2_isBusyWith 8 = .ok (.aload_n 0, 1) := by decide +kernel
theorem dX2_isBusyWith_9 : decode cX2_isBusyWith 9 = .ok (.getfield 25, 3) := by decide +kernel
theorem dX2_isBusyWith_12 : decode cX2_isBusyWith 12 = .ok (.iload_n 1, 1) := by decide +kernel
theorem dX2_isBusyWith_13 : decode cX2_isBusyWith 13 = .ok (.if_icmp .ne 7, 3) := by decide +kernel
theorem dX2_isBusyWith_16 : decode cX2_isBusyWith 16 = .ok (.iconst 1, 1) := by decide +kernel
theorem dX2_isBusyWith_17 : decode cX2_isBusyWith 17 = .ok (.goto 4, 3) := by decide +kernel
theorem dX2_isBusyWith_20 : decode cX2_isBusyWith 20 = .ok (.iconst 0, 1) := by decide +kernel
theorem dX2_isBusyWith_21 : decode cX2_isBusyWith 21 = .ok (.ireturn, 1) := by decide +kernel
theorem dX2_walking_0 : decode cX2_walking 0 = .ok (.aload_n 0, 1) := by decide +kernel
theorem dX2_walking_1 : decode cX2_walking 1 = .ok (.getfield 28, 3) := by decide +kernel
theorem dX2_walking_4 : decode cX2_walking 4 = .ok (.ifCond .le 5, 3) := by decide +kernel
theorem dX2_walking_7 : decode cX2_walking 7 = .ok (.iconst 1, 1) := by decide +kernel
theorem dX2_walking_8 : decode cX2_walking 8 = .ok (.ireturn, 1) := by decide +kernel
theorem dX2_walking_9 : decode cX2_walking 9 = .ok (.aload_n 0, 1) := by decide +kernel
theorem dX2_walking_10 : decode cX2_walking 10 = .ok (.getfield 31, 3) := by decide +kernel
theorem dX2_walking_13 : decode cX2_walking 13 = .ok (.ifCond .le 7, 3) := by decide +kernel
theorem dX2_walking_16 : decode cX2_walking 16 = .ok (.iconst 2, 1) := by decide +kernel
theorem dX2_walking_17 : decode cX2_walking 17 = .ok (.goto 4, 3) := by decide +kernel
theorem dX2_walking_20 : decode cX2_walking 20 = .ok (.iconst 0, 1) := by decide +kernel
theorem dX2_walking_21 : decode cX2_walking 21 = .ok (.ireturn, 1) := by decide +kernel
theorem dX2_mayEndGreen_0 : decode cX2_mayEndGreen 0 = .ok (.aload_n 0, 1) := by decide +kernel
theorem dX2_mayEndGreen_1 : decode cX2_mayEndGreen 1 = .ok (.getfield 34, 3) := by decide +kernel
theorem dX2_mayEndGreen_4 : decode cX2_mayEndGreen 4 = .ok (.aload_n 1, 1) := by decide +kernel
theorem dX2_mayEndGreen_5 : decode cX2_mayEndGreen 5 = .ok (.iconst 0, 1) := by decide +kernel
theorem dX2_mayEndGreen_6 : decode cX2_mayEndGreen 6 = .ok (.iaload, 1) := by decide +kernel
theorem dX2_mayEndGreen_7 : decode cX2_mayEndGreen 7 = .ok (.if_icmp .lt 14, 3) := by decide +kernel
theorem dX2_mayEndGreen_10 : decode cX2_mayEndGreen 10 = .ok (.aload_n 0, 1) := by decide +kernel
theorem dX2_mayEndGreen_11 : decode cX2_mayEndGreen 11 = .ok (.invokevirtual 37, 3) := by decide +kernel
theorem dX2_mayEndGreen_14 : decode cX2_mayEndGreen 14 = .ok (.ifCond .ne 7, 3) := by decide +kernel
theorem dX2_mayEndGreen_17 : decode cX2_mayEndGreen 17 = .ok (.iconst 1, 1) := by decide +kernel
theorem dX2_mayEndGreen_18 : decode cX2_mayEndGreen 18 = .ok (.goto 4, 3) := by decide +kernel
theorem dX2_mayEndGreen_21 : decode cX2_mayEndGreen 21 = .ok (.iconst 0, 1) := by decide +kernel
theorem dX2_mayEndGreen_22 : decode cX2_mayEndGreen 22 = .ok (.istore_n 2, 1) := by decide +kernel
theorem dX2_mayEndGreen_23 : decode cX2_mayEndGreen 23 = .ok (.iload_n 2, 1) := by decide +kernel
theorem dX2_mayEndGreen_24 : decode cX2_mayEndGreen 24 = .ok (.ifCond .eq 24, 3) := by decide +kernel
theorem dX2_mayEndGreen_27 : decode cX2_mayEndGreen 27 = .ok (.aload_n 0, 1) := by decide +kernel
theorem dX2_mayEndGreen_28 : decode cX2_mayEndGreen 28 = .ok (.getfield 41, 3) := by decide +kernel
theorem dX2_mayEndGreen_31 : decode cX2_mayEndGreen 31 = .ok (.ifCond .eq 13, 3) := by decide +kernel
theorem dX2_mayEndGreen_34 : decode cX2_mayEndGreen 34 = .ok (.aload_n 0, 1) := by decide +kernel
theorem dX2_mayEndGreen_35 : decode cX2_mayEndGreen 35 = .ok (.getfield 44, 3) := by decide +kernel
theorem dX2_mayEndGreen_38 : decode cX2_mayEndGreen 38 = .ok (.aload_n 1, 1) := by decide +kernel
theorem dX2_mayEndGreen_39 : decode cX2_mayEndGreen 39 = .ok (.iconst 2, 1) := by decide +kernel
theorem dX2_mayEndGreen_40 : decode cX2_mayEndGreen 40 = .ok (.iaload, 1) := by decide +kernel
theorem dX2_mayEndGreen_41 : decode cX2_mayEndGreen 41 = .ok (.if_icmp .lt 7, 3) := by decide +kernel
theorem dX2_mayEndGreen_44 : decode cX2_mayEndGreen 44 = .ok (.iconst 1, 1) := by decide +kernel
theorem dX2_mayEndGreen_45 : decode cX2_mayEndGreen 45 = .ok (.goto 4, 3) := by decide +kernel
theorem dX2_mayEndGreen_48 : decode cX2_mayEndGreen 48 = .ok (.iconst 0, 1) := by decide +kernel
theorem dX2_mayEndGreen_49 : decode cX2_mayEndGreen 49 = .ok (.ireturn, 1) := by decide +kernel
theorem dX2_beginGreen_0 : decode cX2_beginGreen 0 = .ok (.aload_n 0, 1) := by decide +kernel
theorem dX2_beginGreen_1 : decode cX2_beginGreen 1 = .ok (.iconst 1, 1) := by decide +kernel
theorem dX2_beginGreen_2 : decode cX2_beginGreen 2 = .ok (.invokevirtual 47, 3) := by decide +kernel
theorem dX2_beginGreen_5 : decode cX2_beginGreen 5 = .ok (.aload_n 0, 1) := by decide +kernel
theorem dX2_beginGreen_6 : decode cX2_beginGreen 6 = .ok (.aload_n 0, 1) := by decide +kernel
theorem dX2_beginGreen_7 : decode cX2_beginGreen 7 = .ok (.getfield 25, 3) := by decide +kernel
theorem dX2_beginGreen_10 : decode cX2_beginGreen 10 = .ok (.putfield 19, 3) := by decide +kernel
theorem dX2_beginGreen_13 : decode cX2_beginGreen 13 = .ok (.aload_n 0, 1) := by decide +kernel
theorem dX2_beginGreen_14 : decode cX2_beginGreen 14 = .ok (.iconst (-1), 1) := by decide +kernel
theorem dX2_beginGreen_15 : decode cX2_beginGreen 15 = .ok (.putfield 25, 3) := by decide +kernel
theorem dX2_beginGreen_18 : decode cX2_beginGreen 18 = .ok (.aload_n 0, 1) := by decide +kernel
theorem dX2_beginGreen_19 : decode cX2_beginGreen 19 = .ok (.aload_n 1, 1) := by decide +kernel
theorem dX2_beginGreen_20 : decode cX2_beginGreen 20 = .ok (.getfield 51, 3) := by decide +kernel
theorem dX2_beginGreen_23 : decode cX2_beginGreen 23 = .ok (.iconst 1, 1) := by decide +kernel
theorem dX2_beginGreen_24 : decode cX2_beginGreen 24 = .ok (.iaload, 1) := by decide +kernel
theorem dX2_beginGreen_25 : decode cX2_beginGreen 25 = .ok (.putfield 41, 3) := by decide +kernel
theorem dX2_beginGreen_28 : decode cX2_beginGreen 28 = .ok (.aload_n 1, 1) := by decide +kernel
theorem dX2_beginGreen_29 : decode cX2_beginGreen 29 = .ok (.invokevirtual 57, 3) := by decide +kernel
theorem dX2_beginGreen_32 : decode cX2_beginGreen 32 = .ok (.ifCond .eq 24, 3) := by decide +kernel
theorem dX2_beginGreen_35 : decode cX2_beginGreen 35 = .ok (.aload_n 0, 1) := by decide +kernel
theorem dX2_beginGreen_36 : decode cX2_beginGreen 36 = .ok (.aload_n 1, 1) := by decide +kernel
theorem dX2_beginGreen_37 : decode cX2_beginGreen 37 = .ok (.getfield 51, 3) := by decide +kernel
theorem dX2_beginGreen_40 : decode cX2_beginGreen 40 = .ok (.iconst 5, 1) := by decide +kernel
theorem dX2_beginGreen_41 : decode cX2_beginGreen 41 = .ok (.iaload, 1) := by decide +kernel
theorem dX2_beginGreen_42 : decode cX2_beginGreen 42 = .ok (.putfield 28, 3) := by decide +kernel
theorem dX2_beginGreen_45 : decode cX2_beginGreen 45 = .ok (.aload_n 0, 1) := by decide +kernel
theorem dX2_beginGreen_46 : decode cX2_beginGreen 46 = .ok (.aload_n 1, 1) := by decide +kernel
theorem dX2_beginGreen_47 : decode cX2_beginGreen 47 = .ok (.getfield 51, 3) := by decide +kernel
theorem dX2_beginGreen_50 : decode cX2_beginGreen 50 = .ok (.bipush 6, 2) := by decide +kernel
theorem dX2_beginGreen_52 : decode cX2_beginGreen 52 = .ok (.iaload, 1) := by decide +kernel
theorem dX2_beginGreen_53 : decode cX2_beginGreen 53 = .ok (.putfield 31, 3) := by decide +kernel
theorem dX2_beginGreen_56 : decode cX2_beginGreen 56 = .ok (.return_, 1) := by decide +kernel
theorem dX2_advanceGreen_0 : decode cX2_advanceGreen 0 = .ok (.aload_n 0, 1) := by decide +kernel
theorem dX2_advanceGreen_1 : decode cX2_advanceGreen 1 = .ok (.dup, 1) := by decide +kernel
theorem dX2_advanceGreen_2 : decode cX2_advanceGreen 2 = .ok (.getfield 34, 3) := by decide +kernel
theorem dX2_advanceGreen_5 : decode cX2_advanceGreen 5 = .ok (.iconst 1, 1) := by decide +kernel
theorem dX2_advanceGreen_6 : decode cX2_advanceGreen 6 = .ok (.iadd, 1) := by decide +kernel
theorem dX2_advanceGreen_7 : decode cX2_advanceGreen 7 = .ok (.putfield 34, 3) := by decide +kernel
theorem dX2_advanceGreen_10 : decode cX2_advanceGreen 10 = .ok (.aload_n 1, 1) := by decide +kernel
theorem dX2_advanceGreen_11 : decode cX2_advanceGreen 11 = .ok (.getfield 61, 3) := by decide +kernel
theorem dX2_advanceGreen_14 : decode cX2_advanceGreen 14 = .ok (.ifCond .ne 12, 3) := by decide +kernel
theorem dX2_advanceGreen_17 : decode cX2_advanceGreen 17 = .ok (.aload_n 1, 1) := by decide +kernel
theorem dX2_advanceGreen_18 : decode cX2_advanceGreen 18 = .ok (.bipush 8, 2) := by decide +kernel
theorem dX2_advanceGreen_20 : decode cX2_advanceGreen 20 = .ok (.invokevirtual 65, 3) := by decide +kernel
theorem dX2_advanceGreen_23 : decode cX2_advanceGreen 23 = .ok (.ifCond .eq 16, 3) := by decide +kernel
theorem dX2_advanceGreen_26 : decode cX2_advanceGreen 26 = .ok (.aload_n 0, 1) := by decide +kernel
theorem dX2_advanceGreen_27 : decode cX2_advanceGreen 27 = .ok (.aload_n 1, 1) := by decide +kernel
theorem dX2_advanceGreen_28 : decode cX2_advanceGreen 28 = .ok (.getfield 51, 3) := by decide +kernel
theorem dX2_advanceGreen_31 : decode cX2_advanceGreen 31 = .ok (.iconst 1, 1) := by decide +kernel
theorem dX2_advanceGreen_32 : decode cX2_advanceGreen 32 = .ok (.iaload, 1) := by decide +kernel
theorem dX2_advanceGreen_33 : decode cX2_advanceGreen 33 = .ok (.putfield 41, 3) := by decide +kernel
theorem dX2_advanceGreen_36 : decode cX2_advanceGreen 36 = .ok (.goto 17, 3) := by decide +kernel
theorem dX2_advanceGreen_39 : decode cX2_advanceGreen 39 = .ok (.aload_n 0, 1) := by decide +kernel
theorem dX2_advanceGreen_40 : decode cX2_advanceGreen 40 = .ok (.aload_n 0, 1) := by decide +kernel
theorem dX2_advanceGreen_41 : decode cX2_advanceGreen 41 = .ok (.getfield 41, 3) := by decide +kernel
theorem dX2_advanceGreen_44 : decode cX2_advanceGreen 44 = .ok (.iconst 1, 1) := by decide +kernel
theorem dX2_advanceGreen_45 : decode cX2_advanceGreen 45 = .ok (.isub, 1) := by decide +kernel
theorem dX2_advanceGreen_46 : decode cX2_advanceGreen 46 = .ok (.iconst 0, 1) := by decide +kernel
theorem dX2_advanceGreen_47 : decode cX2_advanceGreen 47 = .ok (.invokestatic 69, 3) := by decide +kernel
theorem dX2_advanceGreen_50 : decode cX2_advanceGreen 50 = .ok (.putfield 41, 3) := by decide +kernel
theorem dX2_advanceGreen_53 : decode cX2_advanceGreen 53 = .ok (.aload_n 0, 1) := by decide +kernel
theorem dX2_advanceGreen_54 : decode cX2_advanceGreen 54 = .ok (.iload_n 2, 1) := by decide +kernel
theorem dX2_advanceGreen_55 : decode cX2_advanceGreen 55 = .ok (.ifCond .eq 12, 3) := by decide +kernel
theorem dX2_advanceGreen_58 : decode cX2_advanceGreen 58 = .ok (.aload_n 0, 1) := by decide +kernel
theorem dX2_advanceGreen_59 : decode cX2_advanceGreen 59 = .ok (.getfield 44, 3) := by decide +kernel
theorem dX2_advanceGreen_62 : decode cX2_advanceGreen 62 = .ok (.iconst 1, 1) := by decide +kernel
theorem dX2_advanceGreen_63 : decode cX2_advanceGreen 63 = .ok (.iadd, 1) := by decide +kernel
theorem dX2_advanceGreen_64 : decode cX2_advanceGreen 64 = .ok (.goto 4, 3) := by decide +kernel
theorem dX2_advanceGreen_67 : decode cX2_advanceGreen 67 = .ok (.iconst 0, 1) := by decide +kernel
theorem dX2_advanceGreen_68 : decode cX2_advanceGreen 68 = .ok (.putfield 44, 3) := by decide +kernel
theorem dX2_advanceGreen_71 : decode cX2_advanceGreen 71 = .ok (.aload_n 0, 1) := by decide +kernel
theorem dX2_advanceGreen_72 : decode cX2_advanceGreen 72 = .ok (.getfield 28, 3) := by decide +kernel
theorem dX2_advanceGreen_75 : decode cX2_advanceGreen 75 = .ok (.ifCond .le 16, 3) := by decide +kernel
theorem dX2_advanceGreen_78 : decode cX2_advanceGreen 78 = .ok (.aload_n 0, 1) := by decide +kernel
theorem dX2_advanceGreen_79 : decode cX2_advanceGreen 79 = .ok (.dup, 1) := by decide +kernel
theorem dX2_advanceGreen_80 : decode cX2_advanceGreen 80 = .ok (.getfield 28, 3) := by decide +kernel
theorem dX2_advanceGreen_83 : decode cX2_advanceGreen 83 = .ok (.iconst 1, 1) := by decide +kernel
theorem dX2_advanceGreen_84 : decode cX2_advanceGreen 84 = .ok (.isub, 1) := by decide +kernel
theorem dX2_advanceGreen_85 : decode cX2_advanceGreen 85 = .ok (.putfield 28, 3) := by decide +kernel
theorem dX2_advanceGreen_88 : decode cX2_advanceGreen 88 = .ok (.goto 20, 3) := by decide +kernel
theorem dX2_advanceGreen_91 : decode cX2_advanceGreen 91 = .ok (.aload_n 0, 1) := by decide +kernel
theorem dX2_advanceGreen_92 : decode cX2_advanceGreen 92 = .ok (.getfield 31, 3) := by decide +kernel
theorem dX2_advanceGreen_95 : decode cX2_advanceGreen 95 = .ok (.ifCond .le 13, 3) := by decide +kernel
theorem dX2_advanceGreen_98 : decode cX2_advanceGreen 98 = .ok (.aload_n 0, 1) := by decide +kernel
theorem dX2_advanceGreen_99 : decode cX2_advanceGreen 99 = .ok (.dup, 1) := by decide +kernel
theorem dX2_advanceGreen_100 : decode cX2_advanceGreen 100 = .ok (.getfield 31, 3) := by decide +kernel
theorem dX2_advanceGreen_103 : decode cX2_advanceGreen 103 = .ok (.iconst 1, 1) := by decide +kernel
theorem dX2_advanceGreen_104 : decode cX2_advanceGreen 104 = .ok (.isub, 1) := by decide +kernel
theorem dX2_advanceGreen_105 : decode cX2_advanceGreen 105 = .ok (.putfield 31, 3) := by decide +kernel
theorem dX2_advanceGreen_108 : decode cX2_advanceGreen 108 = .ok (.return_, 1) := by decide +kernel
theorem dX2_endGreen_0 : decode cX2_endGreen 0 = .ok (.aload_n 0, 1) := by decide +kernel
theorem dX2_endGreen_1 : decode cX2_endGreen 1 = .ok (.iconst 2, 1) := by decide +kernel
theorem dX2_endGreen_2 : decode cX2_endGreen 2 = .ok (.invokevirtual 47, 3) := by decide +kernel
theorem dX2_endGreen_5 : decode cX2_endGreen 5 = .ok (.aload_n 0, 1) := by decide +kernel
theorem dX2_endGreen_6 : decode cX2_endGreen 6 = .ok (.iload_n 1, 1) := by decide +kernel
theorem dX2_endGreen_7 : decode cX2_endGreen 7 = .ok (.putfield 25, 3) := by decide +kernel
theorem dX2_endGreen_10 : decode cX2_endGreen 10 = .ok (.return_, 1) := by decide +kernel
theorem dX2_advanceEnding_0 : decode cX2_advanceEnding 0 = .ok (.aload_n 0, 1) := by decide +kernel
theorem dX2_advanceEnding_1 : decode cX2_advanceEnding 1 = .ok (.dup, 1) := by decide +kernel
theorem dX2_advanceEnding_2 : decode cX2_advanceEnding 2 = .ok (.getfield 34, 3) := by decide +kernel
theorem dX2_advanceEnding_5 : decode cX2_advanceEnding 5 = .ok (.iconst 1, 1) := by decide +kernel
theorem dX2_advanceEnding_6 : decode cX2_advanceEnding 6 = .ok (.iadd, 1) := by decide +kernel
theorem dX2_advanceEnding_7 : decode cX2_advanceEnding 7 = .ok (.putfield 34, 3) := by decide +kernel
theorem dX2_advanceEnding_10 : decode cX2_advanceEnding 10 = .ok (.aload_n 0, 1) := by decide +kernel
theorem dX2_advanceEnding_11 : decode cX2_advanceEnding 11 = .ok (.getfield 22, 3) := by decide +kernel
theorem dX2_advanceEnding_14 : decode cX2_advanceEnding 14 = .ok (.iconst 2, 1) := by decide +kernel
theorem dX2_advanceEnding_15 : decode cX2_advanceEnding 15 = .ok (.if_icmp .ne 21, 3) := by decide +kernel
theorem dX2_advanceEnding_18 : decode cX2_advanceEnding 18 = .ok (.aload_n 0, 1) := by decide +kernel
theorem dX2_advanceEnding_19 : decode cX2_advanceEnding 19 = .ok (.getfield 34, 3) := by decide +kernel
theorem dX2_advanceEnding_22 : decode cX2_advanceEnding 22 = .ok (.aload_n 1, 1) := by decide +kernel
theorem dX2_advanceEnding_23 : decode cX2_advanceEnding 23 = .ok (.getfield 51, 3) := by decide +kernel
theorem dX2_advanceEnding_26 : decode cX2_advanceEnding 26 = .ok (.iconst 3, 1) := by decide +kernel
theorem dX2_advanceEnding_27 : decode cX2_advanceEnding 27 = .ok (.iaload, 1) := by decide +kernel
theorem dX2_advanceEnding_28 : decode cX2_advanceEnding 28 = .ok (.if_icmp .lt 8, 3) := by decide +kernel
theorem dX2_advanceEnding_31 : decode cX2_advanceEnding 31 = .ok (.aload_n 0, 1) := by decide +kernel
theorem dX2_advanceEnding_32 : decode cX2_advanceEnding 32 = .ok (.iconst 3, 1) := by decide +kernel
theorem dX2_advanceEnding_33 : decode cX2_advanceEnding 33 = .ok (.invokevirtual 47, 3) := by decide +kernel
theorem dX2_advanceEnding_36 : decode cX2_advanceEnding 36 = .ok (.aload_n 0, 1) := by decide +kernel
theorem dX2_advanceEnding_37 : decode cX2_advanceEnding 37 = .ok (.getfield 22, 3) := by decide +kernel
theorem dX2_advanceEnding_40 : decode cX2_advanceEnding 40 = .ok (.iconst 3, 1) := by decide +kernel
theorem dX2_advanceEnding_41 : decode cX2_advanceEnding 41 = .ok (.if_icmp .ne 20, 3) := by decide +kernel
theorem dX2_advanceEnding_44 : decode cX2_advanceEnding 44 = .ok (.aload_n 0, 1) := by decide +kernel
theorem dX2_advanceEnding_45 : decode cX2_advanceEnding 45 = .ok (.getfield 34, 3) := by decide +kernel
theorem dX2_advanceEnding_48 : decode cX2_advanceEnding 48 = .ok (.aload_n 1, 1) := by decide +kernel
theorem dX2_advanceEnding_49 : decode cX2_advanceEnding 49 = .ok (.getfield 51, 3) := by decide +kernel
theorem dX2_advanceEnding_52 : decode cX2_advanceEnding 52 = .ok (.iconst 4, 1) := by decide +kernel
theorem dX2_advanceEnding_53 : decode cX2_advanceEnding 53 = .ok (.iaload, 1) := by decide +kernel
theorem dX2_advanceEnding_54 : decode cX2_advanceEnding 54 = .ok (.if_icmp .lt 7, 3) := by decide +kernel
theorem dX2_advanceEnding_57 : decode cX2_advanceEnding 57 = .ok (.aload_n 0, 1) := by decide +kernel
theorem dX2_advanceEnding_58 : decode cX2_advanceEnding 58 = .ok (.invokevirtual 75, 3) := by decide +kernel
theorem dX2_advanceEnding_61 : decode cX2_advanceEnding 61 = .ok (.return_, 1) := by decide +kernel
theorem dX2_goDark_0 : decode cX2_goDark 0 = .ok (.aload_n 0, 1) := by decide +kernel
theorem dX2_goDark_1 : decode cX2_goDark 1 = .ok (.iconst 0, 1) := by decide +kernel
theorem dX2_goDark_2 : decode cX2_goDark 2 = .ok (.invokevirtual 47, 3) := by decide +kernel
theorem dX2_goDark_5 : decode cX2_goDark 5 = .ok (.aload_n 0, 1) := by decide +kernel
theorem dX2_goDark_6 : decode cX2_goDark 6 = .ok (.iconst (-1), 1) := by decide +kernel
theorem dX2_goDark_7 : decode cX2_goDark 7 = .ok (.putfield 19, 3) := by decide +kernel
theorem dX2_goDark_10 : decode cX2_goDark 10 = .ok (.return_, 1) := by decide +kernel
theorem dX2_enter_0 : decode cX2_enter 0 = .ok (.aload_n 0, 1) := by decide +kernel
theorem dX2_enter_1 : decode cX2_enter 1 = .ok (.iload_n 1, 1) := by decide +kernel
theorem dX2_enter_2 : decode cX2_enter 2 = .ok (.putfield 22, 3) := by decide +kernel
theorem dX2_enter_5 : decode cX2_enter 5 = .ok (.aload_n 0, 1) := by decide +kernel
theorem dX2_enter_6 : decode cX2_enter 6 = .ok (.iconst 0, 1) := by decide +kernel
theorem dX2_enter_7 : decode cX2_enter 7 = .ok (.putfield 34, 3) := by decide +kernel
theorem dX2_enter_10 : decode cX2_enter 10 = .ok (.aload_n 0, 1) := by decide +kernel
theorem dX2_enter_11 : decode cX2_enter 11 = .ok (.iconst 0, 1) := by decide +kernel
theorem dX2_enter_12 : decode cX2_enter 12 = .ok (.putfield 41, 3) := by decide +kernel
theorem dX2_enter_15 : decode cX2_enter 15 = .ok (.aload_n 0, 1) := by decide +kernel
theorem dX2_enter_16 : decode cX2_enter 16 = .ok (.iconst 0, 1) := by decide +kernel
theorem dX2_enter_17 : decode cX2_enter 17 = .ok (.putfield 44, 3) := by decide +kernel
theorem dX2_enter_20 : decode cX2_enter 20 = .ok (.aload_n 0, 1) := by decide +kernel
theorem dX2_enter_21 : decode cX2_enter 21 = .ok (.iconst 0, 1) := by decide +kernel
theorem dX2_enter_22 : decode cX2_enter 22 = .ok (.putfield 28, 3) := by decide +kernel
theorem dX2_enter_25 : decode cX2_enter 25 = .ok (.aload_n 0, 1) := by decide +kernel
theorem dX2_enter_26 : decode cX2_enter 26 = .ok (.iconst 0, 1) := by decide +kernel
theorem dX2_enter_27 : decode cX2_enter 27 = .ok (.putfield 31, 3) := by decide +kernel
theorem dX2_enter_30 : decode cX2_enter 30 = .ok (.return_, 1) := by decide +kernel
end
section
theorem dX3_init_0 : decode cX3_init 0 = .ok (.aload_n 0, 1) := by decide +kernel
theorem dX3_init_1 : decode cX3_init 1 = .ok (.invokespecial 1, 3) := by decide +kernel
theorem dX3_init_4 : decode cX3_init 4 = .ok (.aload_n 0, 1) := by decide +kernel
theorem dX3_init_5 : decode cX3_init 5 = .ok (.bipush 8, 2) := by decide +kernel
theorem dX3_init_7 : decode cX3_init 7 = .ok (.anewarray 9, 3) := by decide +kernel
theorem dX3_init_10 : decode cX3_init 10 = .ok (.putfield 11, 3) := by decide +kernel
theorem dX3_init_13 : decode cX3_init 13 = .ok (.iconst 0, 1) := by decide +kernel
theorem dX3_init_14 : decode cX3_init 14 = .ok (.istore_n 1, 1) := by decide +kernel
theorem dX3_init_15 : decode cX3_init 15 = .ok (.iload_n 1, 1) := by decide +kernel
theorem dX3_init_16 : decode cX3_init 16 = .ok (.bipush 8, 2) := by decide +kernel
theorem dX3_init_18 : decode cX3_init 18 = .ok (.if_icmp .ge 22, 3) := by decide +kernel
theorem dX3_init_21 : decode cX3_init 21 = .ok (.aload_n 0, 1) := by decide +kernel
theorem dX3_init_22 : decode cX3_init 22 = .ok (.getfield 11, 3) := by decide +kernel
theorem dX3_init_25 : decode cX3_init 25 = .ok (.iload_n 1, 1) := by decide +kernel
theorem dX3_init_26 : decode cX3_init 26 = .ok (.new 9, 3) := by decide +kernel
theorem dX3_init_29 : decode cX3_init 29 = .ok (.dup, 1) := by decide +kernel
theorem dX3_init_30 : decode cX3_init 30 = .ok (.invokespecial 15, 3) := by decide +kernel
theorem dX3_init_33 : decode cX3_init 33 = .ok (.aastore, 1) := by decide +kernel
theorem dX3_init_34 : decode cX3_init 34 = .ok (.iinc 1 1, 3) := by decide +kernel
theorem dX3_init_37 : decode cX3_init 37 = .ok (.goto (-22), 3) := by decide +kernel
theorem dX3_init_40 : decode cX3_init 40 = .ok (.aload_n 0, 1) := by decide +kernel
theorem dX3_init_41 : decode cX3_init 41 = .ok (.iconst 2, 1) := by decide +kernel
theorem dX3_init_42 : decode cX3_init 42 = .ok (.anewarray 16, 3) := by decide +kernel
theorem dX3_init_45 : decode cX3_init 45 = .ok (.putfield 18, 3) := by decide +kernel
theorem dX3_init_48 : decode cX3_init 48 = .ok (.iconst 0, 1) := by decide +kernel
theorem dX3_init_49 : decode cX3_init 49 = .ok (.istore_n 1, 1) := by decide +kernel
theorem dX3_init_50 : decode cX3_init 50 = .ok (.iload_n 1, 1) := by decide +kernel
theorem dX3_init_51 : decode cX3_init 51 = .ok (.iconst 2, 1) := by decide +kernel
theorem dX3_init_52 : decode cX3_init 52 = .ok (.if_icmp .ge 25, 3) := by decide +kernel
theorem dX3_init_55 : decode cX3_init 55 = .ok (.aload_n 0, 1) := by decide +kernel
theorem dX3_init_56 : decode cX3_init 56 = .ok (.getfield 18, 3) := by decide +kernel
theorem dX3_init_59 : decode cX3_init 59 = .ok (.iload_n 1, 1) := by decide +kernel
theorem dX3_init_60 : decode cX3_init 60 = .ok (.new 16, 3) := by decide +kernel
theorem dX3_init_63 : decode cX3_init 63 = .ok (.dup, 1) := by decide +kernel
theorem dX3_init_64 : decode cX3_init 64 = .ok (.iconst 4, 1) := by decide +kernel
theorem dX3_init_65 : decode cX3_init 65 = .ok (.iload_n 1, 1) := by decide +kernel
theorem dX3_init_66 : decode cX3_init 66 = .ok (.imul, 1) := by decide +kernel
theorem dX3_init_67 : decode cX3_init 67 = .ok (.invokespecial 22, 3) := by decide +kernel
theorem dX3_init_70 : decode cX3_init 70 = .ok (.aastore, 1) := by decide +kernel
theorem dX3_init_71 : decode cX3_init 71 = .ok (.iinc 1 1, 3) := by decide +kernel
theorem dX3_init_74 : decode cX3_init 74 = .ok (.goto (-24), 3) := by decide +kernel
theorem dX3_init_77 : decode cX3_init 77 = .ok (.aload_n 0, 1) := by decide +kernel
theorem dX3_init_78 : decode cX3_init 78 = .ok (.new 25, 3) := by decide +kernel
theorem dX3_init_81 : decode cX3_init 81 = .ok (.dup, 1) := by decide +kernel
theorem dX3_init_82 : decode cX3_init 82 = .ok (.invokespecial 27, 3) := by decide +kernel
theorem dX3_init_85 : decode cX3_init 85 = .ok (.putfield 28, 3) := by decide +kernel
theorem dX3_init_88 : decode cX3_init 88 = .ok (.aload_n 0, 1) := by decide +kernel
theorem dX3_init_89 : decode cX3_init 89 = .ok (.bipush 8, 2) := by decide +kernel
theorem dX3_init_91 : decode cX3_init 91 = .ok (.newarray .int, 2) := by decide +kernel
theorem dX3_init_93 : decode cX3_init 93 = .ok (.putfield 32, 3) := by decide +kernel
theorem dX3_init_96 : decode cX3_init 96 = .ok (.return_, 1) := by decide +kernel
theorem dX3_set_0 : decode cX3_set 0 = .ok (.iload_n 1, 1) := by decide +kernel
theorem dX3_set_1 : decode cX3_set 1 = .ok (.invokestatic 36, 3) := by decide +kernel
theorem dX3_set_4 : decode cX3_set 4 = .ok (.ifCond .eq 13, 3) := by decide +kernel
theorem dX3_set_7 : decode cX3_set 7 = .ok (.iload_n 2, 1) := by decide +kernel
theorem dX3_set_8 : decode cX3_set 8 = .ok (.ifCond .lt 9, 3) := by decide +kernel
theorem dX3_set_11 : decode cX3_set 11 = .ok (.iload_n 2, 1) := by decide +kernel
theorem dX3_set_12 : decode cX3_set 12 = .ok (.bipush 7, 2) := by decide +kernel
theorem dX3_set_14 : decode cX3_set 14 = .ok (.if_icmp .lt 5, 3) := by decide +kernel
theorem dX3_set_17 : decode cX3_set 17 = .ok (.iconst 0, 1) := by decide +kernel
theorem dX3_set_18 : decode cX3_set 18 = .ok (.ireturn, 1) := by decide +kernel
theorem dX3_set_19 : decode cX3_set 19 = .ok (.iload_n 3, 1) := by decide +kernel
theorem dX3_set_20 : decode cX3_set 20 = .ok (.getstatic 40, 3) := by decide +kernel
theorem dX3_set_23 : decode cX3_set 23 = .ok (.iload_n 2, 1) := by decide +kernel
theorem dX3_set_24 : decode cX3_set 24 = .ok (.iaload, 1) := by decide +kernel
theorem dX3_set_25 : decode cX3_set 25 = .ok (.if_icmp .lt 12, 3) := by decide +kernel
theorem dX3_set_28 : decode cX3_set 28 = .ok (.iload_n 3, 1) := by decide +kernel
theorem dX3_set_29 : decode cX3_set 29 = .ok (.getstatic 43, 3) := by decide +kernel
theorem dX3_set_32 : decode cX3_set 32 = .ok (.iload_n 2, 1) := by decide +kernel
theorem dX3_set_33 : decode cX3_set 33 = .ok (.iaload, 1) := by decide +kernel
theorem dX3_set_34 : decode cX3_set 34 = .ok (.if_icmp .le 5, 3) := by decide +kernel
theorem dX3_set_37 : decode cX3_set 37 = .ok (.iconst 0, 1) := by decide +kernel
theorem dX3_set_38 : decode cX3_set 38 = .ok (.ireturn, 1) := by decide +kernel
theorem dX3_set_39 : decode cX3_set 39 = .ok (.aload_n 0, 1) := by decide +kernel
theorem dX3_set_40 : decode cX3_set 40 = .ok (.getfield 11, 3) := by decide +kernel
theorem dX3_set_43 : decode cX3_set 43 = .ok (.iload_n 1, 1) := by decide +kernel
theorem dX3_set_44 : decode cX3_set 44 = .ok (.aaload, 1) := by decide +kernel
theorem dX3_set_45 : decode cX3_set 45 = .ok (.getfield 46, 3) := by decide +kernel
theorem dX3_set_48 : decode cX3_set 48 = .ok (.iload_n 2, 1) := by decide +kernel
theorem dX3_set_49 : decode cX3_set 49 = .ok (.iload_n 3, 1) := by decide +kernel
theorem dX3_set_50 : decode cX3_set 50 = .ok (.iastore, 1) := by decide +kernel
theorem dX3_set_51 : decode cX3_set 51 = .ok (.iconst 1, 1) := by decide +kernel
theorem dX3_set_52 : decode cX3_set 52 = .ok (.ireturn, 1) := by decide +kernel
theorem dX3_mode_0 : decode cX3_mode 0 = .ok (.iload_n 1, 1) := by decide +kernel
theorem dX3_mode_1 : decode cX3_mode 1 = .ok (.invokestatic 36, 3) := by decide +kernel
theorem dX3_mode_4 : decode cX3_mode 4 = .ok (.ifCond .eq 13, 3) := by decide +kernel
theorem dX3_mode_7 : decode cX3_mode 7 = .ok (.iload_n 2, 1) := by decide +kernel
theorem dX3_mode_8 : decode cX3_mode 8 = .ok (.ifCond .lt 9, 3) := by decide +kernel
theorem dX3_mode_11 : decode cX3_mode 11 = .ok (.iload_n 2, 1) := by decide +kernel
theorem dX3_mode_12 : decode cX3_mode 12 = .ok (.bipush 63, 2) := by decide +kernel
theorem dX3_mode_14 : decode cX3_mode 14 = .ok (.if_icmp .le 5, 3) := by decide +kernel
theorem dX3_mode_17 : decode cX3_mode 17 = .ok (.iconst 0, 1) := by decide +kernel
theorem dX3_mode_18 : decode cX3_mode 18 = .ok (.ireturn, 1) := by decide +kernel
theorem dX3_mode_19 : decode cX3_mode 19 = .ok (.aload_n 0, 1) := by decide +kernel
theorem dX3_mode_20 : decode cX3_mode 20 = .ok (.getfield 11, 3) := by decide +kernel
theorem dX3_mode_23 : decode cX3_mode 23 = .ok (.iload_n 1, 1) := by decide +kernel
theorem dX3_mode_24 : decode cX3_mode 24 = .ok (.aaload, 1) := by decide +kernel
theorem dX3_mode_25 : decode cX3_mode 25 = .ok (.iload_n 2, 1) := by decide +kernel
theorem dX3_mode_26 : decode cX3_mode 26 = .ok (.putfield 49, 3) := by decide +kernel
theorem dX3_mode_29 : decode cX3_mode 29 = .ok (.iconst 1, 1) := by decide +kernel
theorem dX3_mode_30 : decode cX3_mode 30 = .ok (.ireturn, 1) := by decide +kernel
theorem dX3_exchange_0 : decode cX3_exchange 0 = .ok (.iload_n 1, 1) := by decide +kernel
theorem dX3_exchange_1 : decode cX3_exchange 1 = .ok (.invokestatic 53, 3) := by decide +kernel
theorem dX3_exchange_4 : decode cX3_exchange 4 = .ok (.ifCond .eq 12, 3) := by decide +kernel
theorem dX3_exchange_7 : decode cX3_exchange 7 = .ok (.iload_n 2, 1) := by decide +kernel
theorem dX3_exchange_8 : decode cX3_exchange 8 = .ok (.ifCond .lt 8, 3) := by decide +kernel
theorem dX3_exchange_11 : decode cX3_exchange 11 = .ok (.iload_n 2, 1) := by decide +kernel
theorem dX3_exchange_12 : decode cX3_exchange 12 = .ok (.iconst 2, 1) := by decide +kernel
theorem dX3_exchange_13 : decode cX3_exchange 13 = .ok (.if_icmp .lt 5, 3) := by decide +kernel
theorem dX3_exchange_16 : decode cX3_exchange 16 = .ok (.iconst 0, 1) := by decide +kernel
theorem dX3_exchange_17 : decode cX3_exchange 17 = .ok (.ireturn, 1) := by decide +kernel
theorem dX3_exchange_18 : decode cX3_exchange 18 = .ok (.aload_n 0, 1) := by decide +kernel
theorem dX3_exchange_19 : decode cX3_exchange 19 = .ok (.getfield 18, 3) := by decide +kernel
theorem dX3_exchange_22 : decode cX3_exchange 22 = .ok (.iload_n 1, 1) := by decide +kernel
theorem dX3_exchange_23 : decode cX3_exchange 23 = .ok (.aaload, 1) := by decide +kernel
theorem dX3_exchange_24 : decode cX3_exchange 24 = .ok (.astore_n 3, 1) := by decide +kernel
theorem dX3_exchange_25 : decode cX3_exchange 25 = .ok (.aload_n 3, 1) := by decide +kernel
theorem dX3_exchange_26 : decode cX3_exchange 26 = .ok (.aload_n 3, 1) := by decide +kernel
theorem dX3_exchange_27 : decode cX3_exchange 27 = .ok (.iload_n 2, 1) := by decide +kernel
theorem dX3_exchange_28 : decode cX3_exchange 28 = .ok (.invokevirtual 56, 3) := by decide +kernel
theorem dX3_exchange_31 : decode cX3_exchange 31 = .ok (.invokevirtual 60, 3) := by decide +kernel
theorem dX3_exchange_34 : decode cX3_exchange 34 = .ok (.ifCond .ne 15, 3) := by decide +kernel
theorem dX3_exchange_37 : decode cX3_exchange 37 = .ok (.aload_n 3, 1) := by decide +kernel
theorem dX3_exchange_38 : decode cX3_exchange 38 = .ok (.aload_n 3, 1) := by decide +kernel
theorem dX3_exchange_39 : decode cX3_exchange 39 = .ok (.iload_n 2, 1) := by decide +kernel
theorem dX3_exchange_40 : decode cX3_exchange 40 = .ok (.invokevirtual 63, 3) := by decide +kernel
theorem dX3_exchange_43 : decode cX3_exchange 43 = .ok (.invokevirtual 60, 3) := by decide +kernel
theorem dX3_exchange_46 : decode cX3_exchange 46 = .ok (.ifCond .eq 5, 3) := by decide +kernel
theorem dX3_exchange_49 : decode cX3_exchange 49 = .ok (.iconst 0, 1) := by decide +kernel
theorem dX3_exchange_50 : decode cX3_exchange 50 = .ok (.ireturn, 1) := by decide +kernel
theorem dX3_exchange_51 : decode cX3_exchange 51 = .ok (.aload_n 3, 1) := by decide +kernel
theorem dX3_exchange_52 : decode cX3_exchange 52 = .ok (.getfield 66, 3) := by decide +kernel
theorem dX3_exchange_55 : decode cX3_exchange 55 = .ok (.iload_n 2, 1) := by decide +kernel
theorem dX3_exchange_56 : decode cX3_exchange 56 = .ok (.aload_n 3, 1) := by decide +kernel
theorem dX3_exchange_57 : decode cX3_exchange 57 = .ok (.getfield 66, 3) := by decide +kernel
theorem dX3_exchange_60 : decode cX3_exchange 60 = .ok (.iload_n 2, 1) := by decide +kernel
theorem dX3_exchange_61 : decode cX3_exchange 61 = .ok (.baload, 1) := by decide +kernel
theorem dX3_exchange_62 : decode cX3_exchange 62 = .ok (.ifCond .ne 7, 3) := by decide +kernel
theorem dX3_exchange_65 : decode cX3_exchange 65 = .ok (.iconst 1, 1) := by decide +kernel
theorem dX3_exchange_66 : decode cX3_exchange 66 = .ok (.goto 4, 3) := by decide +kernel
theorem dX3_exchange_69 : decode cX3_exchange 69 = .ok (.iconst 0, 1) := by decide +kernel
theorem dX3_exchange_70 : decode cX3_exchange 70 = .ok (.bastore, 1) := by decide +kernel
theorem dX3_exchange_71 : decode cX3_exchange 71 = .ok (.iconst 1, 1) := by decide +kernel
theorem dX3_exchange_72 : decode cX3_exchange 72 = .ok (.ireturn, 1) := by decide +kernel
theorem dX3_car_0 : decode cX3_car 0 = .ok (.iload_n 1, 1) := by decide +kernel
theorem dX3_car_1 : decode cX3_car 1 = .ok (.invokestatic 36, 3) := by decide +kernel
theorem dX3_car_4 : decode cX3_car 4 = .ok (.ifCond .eq 12, 3) := by decide +kernel
theorem dX3_car_7 : decode cX3_car 7 = .ok (.iload_n 2, 1) := by decide +kernel
theorem dX3_car_8 : decode cX3_car 8 = .ok (.ifCond .lt 8, 3) := by decide +kernel
theorem dX3_car_11 : decode cX3_car 11 = .ok (.iload_n 2, 1) := by decide +kernel
theorem dX3_car_12 : decode cX3_car 12 = .ok (.iconst 1, 1) := by decide +kernel
theorem dX3_car_13 : decode cX3_car 13 = .ok (.if_icmp .le 5, 3) := by decide +kernel
theorem dX3_car_16 : decode cX3_car 16 = .ok (.iconst 0, 1) := by decide +kernel
theorem dX3_car_17 : decode cX3_car 17 = .ok (.ireturn, 1) := by decide +kernel
theorem dX3_car_18 : decode cX3_car 18 = .ok (.aload_n 0, 1) := by decide +kernel
theorem dX3_car_19 : decode cX3_car 19 = .ok (.getfield 11, 3) := by decide +kernel
theorem dX3_car_22 : decode cX3_car 22 = .ok (.iload_n 1, 1) := by decide +kernel
theorem dX3_car_23 : decode cX3_car 23 = .ok (.aaload, 1) := by decide +kernel
theorem dX3_car_24 : decode cX3_car 24 = .ok (.astore_n 3, 1) := by decide +kernel
theorem dX3_car_25 : decode cX3_car 25 = .ok (.iload_n 2, 1) := by decide +kernel
theorem dX3_car_26 : decode cX3_car 26 = .ok (.iconst 1, 1) := by decide +kernel
theorem dX3_car_27 : decode cX3_car 27 = .ok (.if_icmp .ne 7, 3) := by decide +kernel
theorem dX3_car_30 : decode cX3_car 30 = .ok (.iconst 1, 1) := by decide +kernel
theorem dX3_car_31 : decode cX3_car 31 = .ok (.goto 4, 3) := by decide +kernel
theorem dX3_car_34 : decode cX3_car 34 = .ok (.iconst 0, 1) := by decide +kernel
theorem dX3_car_35 : decode cX3_car 35 = .ok (.istore 4, 2) := by decide +kernel
theorem dX3_car_37 : decode cX3_car 37 = .ok (.aload_n 3, 1) := by decide +kernel
theorem dX3_car_38 : decode cX3_car 38 = .ok (.getfield 70, 3) := by decide +kernel
theorem dX3_car_41 : decode cX3_car 41 = .ok (.iload 4, 2) := by decide +kernel
theorem dX3_car_43 : decode cX3_car 43 = .ok (.if_icmp .ne 5, 3) := by decide +kernel
theorem dX3_car_46 : decode cX3_car 46 = .ok (.iconst 0, 1) := by decide +kernel
theorem dX3_car_47 : decode cX3_car 47 = .ok (.ireturn, 1) := by decide +kernel
theorem dX3_car_48 : decode cX3_car 48 = .ok (.aload_n 3, 1) := by decide +kernel
theorem dX3_car_49 : decode cX3_car 49 = .ok (.iload 4, 2) := by decide +kernel
theorem dX3_car_51 : decode cX3_car 51 = .ok (.putfield 70, 3) := by decide +kernel
theorem dX3_car_54 : decode cX3_car 54 = .ok (.iload 4, 2) := by decide +kernel
theorem dX3_car_56 : decode cX3_car 56 = .ok (.ifCond .eq 24, 3) := by decide +kernel
theorem dX3_car_59 : decode cX3_car 59 = .ok (.aload_n 3, 1) := by decide +kernel
theorem dX3_car_60 : decode cX3_car 60 = .ok (.iconst 2, 1) := by decide +kernel
theorem dX3_car_61 : decode cX3_car 61 = .ok (.invokevirtual 74, 3) := by decide +kernel
theorem dX3_car_64 : decode cX3_car 64 = .ok (.ifCond .eq 16, 3) := by decide +kernel
theorem dX3_car_67 : decode cX3_car 67 = .ok (.aload_n 0, 1) := by decide +kernel
theorem dX3_car_68 : decode cX3_car 68 = .ok (.iload_n 1, 1) := by decide +kernel
theorem dX3_car_69 : decode cX3_car 69 = .ok (.invokevirtual 77, 3) := by decide +kernel
theorem dX3_car_72 : decode cX3_car 72 = .ok (.ifCond .ne 8, 3) := by decide +kernel
theorem dX3_car_75 : decode cX3_car 75 = .ok (.aload_n 3, 1) := by decide +kernel
theorem dX3_car_76 : decode cX3_car 76 = .ok (.iconst 1, 1) := by decide +kernel
theorem dX3_car_77 : decode cX3_car 77 = .ok (.putfield 80, 3) := by decide +kernel
theorem dX3_car_80 : decode cX3_car 80 = .ok (.iconst 1, 1) := by decide +kernel
theorem dX3_car_81 : decode cX3_car 81 = .ok (.ireturn, 1) := by decide +kernel
theorem dX3_push_0 : decode cX3_push 0 = .ok (.iload_n 1, 1) := by decide +kernel
theorem dX3_push_1 : decode cX3_push 1 = .ok (.invokestatic 36, 3) := by decide +kernel
theorem dX3_push_4 : decode cX3_push 4 = .ok (.ifCond .eq 15, 3) := by decide +kernel
theorem dX3_push_7 : decode cX3_push 7 = .ok (.aload_n 0, 1) := by decide +kernel
theorem dX3_push_8 : decode cX3_push 8 = .ok (.getfield 11, 3) := by decide +kernel
theorem dX3_push_11 : decode cX3_push 11 = .ok (.iload_n 1, 1) := by decide +kernel
theorem dX3_push_12 : decode cX3_push 12 = .ok (.aaload, 1) := by decide +kernel
theorem dX3_push_13 : decode cX3_push 13 = .ok (.getfield 83, 3) := by decide +kernel
theorem dX3_push_16 : decode cX3_push 16 = .ok (.ifCond .eq 5, 3) := by decide +kernel
theorem dX3_push_19 : decode cX3_push 19 = .ok (.iconst 0, 1) := by decide +kernel
theorem dX3_push_20 : decode cX3_push 20 = .ok (.ireturn, 1) := by decide +kernel
theorem dX3_push_21 : decode cX3_push 21 = .ok (.aload_n 0, 1) := by decide +kernel
theorem dX3_push_22 : decode cX3_push 22 = .ok (.getfield 11, 3) := by decide +kernel
theorem dX3_push_25 : decode cX3_push 25 = .ok (.iload_n 1, 1) := by decide +kernel
theorem dX3_push_26 : decode cX3_push 26 = .ok (.aaload, 1) := by decide +kernel
theorem dX3_push_27 : decode cX3_push 27 = .ok (.iconst 1, 1) := by decide +kernel
theorem dX3_push_28 : decode cX3_push 28 = .ok (.putfield 83, 3) := by decide +kernel
theorem dX3_push_31 : decode cX3_push 31 = .ok (.iconst 1, 1) := by decide +kernel
theorem dX3_push_32 : decode cX3_push 32 = .ok (.ireturn, 1) := by decide +kernel
theorem dX3_stick_0 : decode cX3_stick 0 = .ok (.iload_n 1, 1) := by decide +kernel
theorem dX3_stick_1 : decode cX3_stick 1 = .ok (.invokestatic 36, 3) := by decide +kernel
theorem dX3_stick_4 : decode cX3_stick 4 = .ok (.ifCond .eq 13, 3) := by decide +kernel
theorem dX3_stick_7 : decode cX3_stick 7 = .ok (.iload_n 2, 1) := by decide +kernel
theorem dX3_stick_8 : decode cX3_stick 8 = .ok (.iconst (-1), 1) := by decide +kernel
theorem dX3_stick_9 : decode cX3_stick 9 = .ok (.if_icmp .lt 8, 3) := by decide +kernel
theorem dX3_stick_12 : decode cX3_stick 12 = .ok (.iload_n 2, 1) := by decide +kernel
theorem dX3_stick_13 : decode cX3_stick 13 = .ok (.iconst 2, 1) := by decide +kernel
theorem dX3_stick_14 : decode cX3_stick 14 = .ok (.if_icmp .le 5, 3) := by decide +kernel
theorem dX3_stick_17 : decode cX3_stick 17 = .ok (.iconst 0, 1) := by decide +kernel
theorem dX3_stick_18 : decode cX3_stick 18 = .ok (.ireturn, 1) := by decide +kernel
theorem dX3_stick_19 : decode cX3_stick 19 = .ok (.aload_n 0, 1) := by decide +kernel
theorem dX3_stick_20 : decode cX3_stick 20 = .ok (.getfield 11, 3) := by decide +kernel
theorem dX3_stick_23 : decode cX3_stick 23 = .ok (.iload_n 1, 1) := by decide +kernel
theorem dX3_stick_24 : decode cX3_stick 24 = .ok (.aaload, 1) := by decide +kernel
theorem dX3_stick_25 : decode cX3_stick 25 = .ok (.iload_n 2, 1) := by decide +kernel
theorem dX3_stick_26 : decode cX3_stick 26 = .ok (.putfield 86, 3) := by decide +kernel
theorem dX3_stick_29 : decode cX3_stick 29 = .ok (.iconst 1, 1) := by decide +kernel
theorem dX3_stick_30 : decode cX3_stick 30 = .ok (.ireturn, 1) := by decide +kernel
theorem dX3_run_0 : decode cX3_run 0 = .ok (.iload_n 1, 1) := by decide +kernel
theorem dX3_run_1 : decode cX3_run 1 = .ok (.ifCond .lt 10, 3) := by decide +kernel
theorem dX3_run_4 : decode cX3_run 4 = .ok (.iload_n 1, 1) := by decide +kernel
theorem dX3_run_5 : decode cX3_run 5 = .ok (.sipush 500, 3) := by decide +kernel
theorem dX3_run_8 : decode cX3_run 8 = .ok (.if_icmp .le 5, 3) := by decide +kernel
theorem dX3_run_11 : decode cX3_run 11 = .ok (.iconst (-1), 1) := by decide +kernel
theorem dX3_run_12 : decode cX3_run 12 = .ok (.ireturn, 1) := by decide +kernel
theorem dX3_run_13 : decode cX3_run 13 = .ok (.iconst 0, 1) := by decide +kernel
theorem dX3_run_14 : decode cX3_run 14 = .ok (.istore_n 2, 1) := by decide +kernel
theorem dX3_run_15 : decode cX3_run 15 = .ok (.iconst 0, 1) := by decide +kernel
theorem dX3_run_16 : decode cX3_run 16 = .ok (.istore_n 3, 1) := by decide +kernel
theorem dX3_run_17 : decode cX3_run 17 = .ok (.iload_n 3, 1) := by decide +kernel
theorem dX3_run_18 : decode cX3_run 18 = .ok (.iload_n 1, 1) := by decide +kernel
theorem dX3_run_19 : decode cX3_run 19 = .ok (.if_icmp .ge 16, 3) := by decide +kernel
theorem dX3_run_22 : decode cX3_run 22 = .ok (.iload_n 2, 1) := by decide +kernel
theorem dX3_run_23 : decode cX3_run 23 = .ok (.aload_n 0, 1) := by decide +kernel
theorem dX3_run_24 : decode cX3_run 24 = .ok (.invokevirtual 89, 3) := by decide +kernel
theorem dX3_run_27 : decode cX3_run 27 = .ok (.iadd, 1) := by decide +kernel
theorem dX3_run_28 : decode cX3_run 28 = .ok (.istore_n 2, 1) := by decide +kernel
theorem dX3_run_29 : decode cX3_run 29 = .ok (.iinc 3 1, 3) := by decide +kernel
theorem dX3_run_32 : decode cX3_run 32 = .ok (.goto (-15), 3) := by decide +kernel
theorem dX3_run_35 : decode cX3_run 35 = .ok (.iload_n 2, 1) := by decide +kernel
theorem dX3_run_36 : decode cX3_run 36 = .ok (.ireturn, 1) := by decide +kernel
theorem dX3_restart_0 : decode cX3_restart 0 = .ok (.aload_n 0, 1) := by decide +kernel
theorem dX3_restart_1 : decode cX3_restart 1 = .ok (.invokevirtual 93, 3) := by decide +kernel
theorem dX3_restart_4 : decode cX3_restart 4 = .ok (.ifCond .ne 5, 3) := by decide +kernel
theorem dX3_restart_7 : decode cX3_restart 7 = .ok (.iconst 0, 1) := by decide +kernel
theorem dX3_restart_8 : decode cX3_restart 8 = .ok (.ireturn, 1) := by decide +kernel
theorem dX3_restart_9 : decode cX3_restart 9 = .ok (.iconst 0, 1) := by decide +kernel
theorem dX3_restart_10 : decode cX3_restart 10 = .ok (.istore_n 1, 1) := by decide +kernel
theorem dX3_restart_11 : decode cX3_restart 11 = .ok (.iload_n 1, 1) := by decide +kernel
theorem dX3_restart_12 : decode cX3_restart 12 = .ok (.iconst 2, 1) := by decide +kernel
theorem dX3_restart_13 : decode cX3_restart 13 = .ok (.if_icmp .ge 28, 3) := by decide +kernel
theorem dX3_restart_16 : decode cX3_restart 16 = .ok (.aload_n 0, 1) := by decide +kernel
theorem dX3_restart_17 : decode cX3_restart 17 = .ok (.getfield 18, 3) := by decide +kernel
theorem dX3_restart_20 : decode cX3_restart 20 = .ok (.iload_n 1, 1) := by decide +kernel
theorem dX3_restart_21 : decode cX3_restart 21 = .ok (.aaload, 1) := by decide +kernel
theorem dX3_restart_22 : decode cX3_restart 22 = .ok (.invokevirtual 97, 3) := by decide +kernel
theorem dX3_restart_25 : decode cX3_restart 25 = .ok (.aload_n 0, 1) := by decide +kernel
theorem dX3_restart_26 : decode cX3_restart 26 = .ok (.getfield 18, 3) := by decide +kernel
theorem dX3_restart_29 : decode cX3_restart 29 = .ok (.iload_n 1, 1) := by decide +kernel
theorem dX3_restart_30 : decode cX3_restart 30 = .ok (.aaload, 1) := by decide +kernel
theorem dX3_restart_31 : decode cX3_restart 31 = .ok (.iconst (-1), 1) := by decide +kernel
theorem dX3_restart_32 : decode cX3_restart 32 = .ok (.putfield 100, 3) := by decide +kernel
theorem dX3_restart_35 : decode cX3_restart 35 = .ok (.iinc 1 1, 3) := by decide +kernel
theorem dX3_restart_38 : decode cX3_restart 38 = .ok (.goto (-27), 3) := by decide +kernel
theorem dX3_restart_41 : decode cX3_restart 41 = .ok (.aload_n 0, 1) := by decide +kernel
theorem dX3_restart_42 : decode cX3_restart 42 = .ok (.iconst 0, 1) := by decide +kernel
theorem dX3_restart_43 : decode cX3_restart 43 = .ok (.putfield 103, 3) := by decide +kernel
theorem dX3_restart_46 : decode cX3_restart 46 = .ok (.aload_n 0, 1) := by decide +kernel
theorem dX3_restart_47 : decode cX3_restart 47 = .ok (.iconst 0, 1) := by decide +kernel
theorem dX3_restart_48 : decode cX3_restart 48 = .ok (.putfield 106, 3) := by decide +kernel
theorem dX3_restart_51 : decode cX3_restart 51 = .ok (.aload_n 0, 1) := by decide +kernel
theorem dX3_restart_52 : decode cX3_restart 52 = .ok (.getfield 28, 3) := by decide +kernel
theorem dX3_restart_55 : decode cX3_restart 55 = .ok (.invokevirtual 109, 3) := by decide +kernel
theorem dX3_restart_58 : decode cX3_restart 58 = .ok (.iconst 1, 1) := by decide +kernel
theorem dX3_restart_59 : decode cX3_restart 59 = .ok (.ireturn, 1) := by decide +kernel
theorem dX3_of_0 : decode cX3_of 0 = .ok (.iload_n 1, 1) := by decide +kernel
theorem dX3_of_1 : decode cX3_of 1 = .ok (.invokestatic 36, 3) := by decide +kernel
theorem dX3_of_4 : decode cX3_of 4 = .ok (.ifCond .ne 5, 3) := by decide +kernel
theorem dX3_of_7 : decode cX3_of 7 = .ok (.iconst (-1), 1) := by decide +kernel
theorem dX3_of_8 : decode cX3_of 8 = .ok (.ireturn, 1) := by decide +kernel
theorem dX3_of_9 : decode cX3_of 9 = .ok (.aload_n 0, 1) := by decide +kernel
theorem dX3_of_10 : decode cX3_of 10 = .ok (.getfield 11, 3) := by decide +kernel
theorem dX3_of_13 : decode cX3_of 13 = .ok (.iload_n 1, 1) := by decide +kernel
theorem dX3_of_14 : decode cX3_of 14 = .ok (.aaload, 1) := by decide +kernel
theorem dX3_of_15 : decode cX3_of 15 = .ok (.astore_n 3, 1) := by decide +kernel
theorem dX3_of_16 : decode cX3_of 16 = .ok (.iload_n 2, 1) := by decide +kernel
theorem dX3_of_17 : decode cX3_of 17 = .ok (.tableswitch 141 0 8 #[51, 68, 93, 102, 107, 112, 117, 125, 133], 51) := by decide +kernel
theorem dX3_of_68 : decode cX3_of 68 = .ok (.aload_n 0, 1) := by decide +kernel
theorem dX3_of_69 : decode cX3_of 69 = .ok (.invokevirtual 93, 3) := by decide +kernel
theorem dX3_of_72 : decode cX3_of 72 = .ok (.ifCond .eq 7, 3) := by decide +kernel
theorem dX3_of_75 : decode cX3_of 75 = .ok (.iconst 3, 1) := by decide +kernel
theorem dX3_of_76 : decode cX3_of 76 = .ok (.goto 8, 3) := by decide +kernel
theorem dX3_of_79 : decode cX3_of 79 = .ok (.aload_n 0, 1) := by decide +kernel
theorem dX3_of_80 : decode cX3_of 80 = .ok (.iload_n 1, 1) := by decide +kernel
theorem dX3_of_81 : decode cX3_of 81 = .ok (.invokevirtual 112, 3) := by decide +kernel
theorem dX3_of_84 : decode cX3_of 84 = .ok (.ireturn, 1) := by decide +kernel
theorem dX3_of_85 : decode cX3_of 85 = .ok (.aload_n 0, 1) := by decide +kernel
theorem dX3_of_86 : decode cX3_of 86 = .ok (.iload_n 1, 1) := by decide +kernel
theorem dX3_of_87 : decode cX3_of 87 = .ok (.invokevirtual 77, 3) := by decide +kernel
theorem dX3_of_90 : decode cX3_of 90 = .ok (.ifCond .eq 18, 3) := by decide +kernel
theorem dX3_of_93 : decode cX3_of 93 = .ok (.aload_n 0, 1) := by decide +kernel
theorem dX3_of_94 : decode cX3_of 94 = .ok (.getfield 18, 3) := by decide +kernel
theorem dX3_of_97 : decode cX3_of 97 = .ok (.iload_n 1, 1) := by decide +kernel
theorem dX3_of_98 : decode cX3_of 98 = .ok (.invokestatic 115, 3) := by decide +kernel
theorem dX3_of_101 : decode cX3_of 101 = .ok (.aaload, 1) := by decide +kernel
theorem dX3_of_102 : decode cX3_of 102 = .ok (.invokevirtual 118, 3) := by decide +kernel
theorem dX3_of_105 : decode cX3_of 105 = .ok (.goto 4, 3) := by decide +kernel
theorem dX3_of_108 : decode cX3_of 108 = .ok (.iconst 0, 1) := by decide +kernel
theorem dX3_of_109 : decode cX3_of 109 = .ok (.ireturn, 1) := by decide +kernel
theorem dX3_of_110 : decode cX3_of 110 = .ok (.aload_n 0, 1) := by decide +kernel
theorem dX3_of_111 : decode cX3_of 111 = .ok (.iload_n 1, 1) := by decide +kernel
theorem dX3_of_112 : decode cX3_of 112 = .ok (.invokevirtual 121, 3) := by decide +kernel
theorem dX3_of_115 : decode cX3_of 115 = .ok (.invokestatic 124, 3) := by decide +kernel
theorem dX3_of_118 : decode cX3_of 118 = .ok (.ireturn, 1) := by decide +kernel
theorem dX3_of_119 : decode cX3_of 119 = .ok (.aload_n 3, 1) := by decide +kernel
theorem dX3_of_120 : decode cX3_of 120 = .ok (.getfield 128, 3) := by decide +kernel
theorem dX3_of_123 : decode cX3_of 123 = .ok (.ireturn, 1) := by decide +kernel
theorem dX3_of_124 : decode cX3_of 124 = .ok (.aload_n 3, 1) := by decide +kernel
theorem dX3_of_125 : decode cX3_of 125 = .ok (.getfield 131, 3) := by decide +kernel
theorem dX3_of_128 : decode cX3_of 128 = .ok (.ireturn, 1) := by decide +kernel
theorem dX3_of_129 : decode cX3_of 129 = .ok (.aload_n 3, 1) := by decide +kernel
theorem dX3_of_130 : decode cX3_of 130 = .ok (.getfield 134, 3) := by decide +kernel
theorem dX3_of_133 : decode cX3_of 133 = .ok (.ireturn, 1) := by decide +kernel
theorem dX3_of_134 : decode cX3_of 134 = .ok (.aload_n 3, 1) := by decide +kernel
theorem dX3_of_135 : decode cX3_of 135 = .ok (.getfield 70, 3) := by decide +kernel
theorem dX3_of_138 : decode cX3_of 138 = .ok (.invokestatic 124, 3) := by decide +kernel
theorem dX3_of_141 : decode cX3_of 141 = .ok (.ireturn, 1) := by decide +kernel
theorem dX3_of_142 : decode cX3_of 142 = .ok (.aload_n 3, 1) := by decide +kernel
theorem dX3_of_143 : decode cX3_of 143 = .ok (.getfield 83, 3) := by decide +kernel
theorem dX3_of_146 : decode cX3_of 146 = .ok (.invokestatic 124, 3) := by decide +kernel
theorem dX3_of_149 : decode cX3_of 149 = .ok (.ireturn, 1) := by decide +kernel
theorem dX3_of_150 : decode cX3_of 150 = .ok (.aload_n 3, 1) := by decide +kernel
theorem dX3_of_151 : decode cX3_of 151 = .ok (.getfield 80, 3) := by decide +kernel
theorem dX3_of_154 : decode cX3_of 154 = .ok (.invokestatic 124, 3) := by decide +kernel
theorem dX3_of_157 : decode cX3_of 157 = .ok (.ireturn, 1) := by decide +kernel
theorem dX3_of_158 : decode cX3_of 158 = .ok (.iconst (-1), 1) := by decide +kernel
theorem dX3_of_159 : decode cX3_of 159 = .ok (.ireturn, 1) := by decide +kernel
theorem dX3_ring_0 : decode cX3_ring 0 = .ok (.iload_n 1, 1) := by decide +kernel
theorem dX3_ring_1 : decode cX3_ring 1 = .ok (.invokestatic 53, 3) := by decide +kernel
theorem dX3_ring_4 : decode cX3_ring 4 = .ok (.ifCond .ne 5, 3) := by decide +kernel
theorem dX3_ring_7 : decode cX3_ring 7 = .ok (.iconst (-1), 1) := by decide +kernel
theorem dX3_ring_8 : decode cX3_ring 8 = .ok (.ireturn, 1) := by decide +kernel
theorem dX3_ring_9 : decode cX3_ring 9 = .ok (.aload_n 0, 1) := by decide +kernel
theorem dX3_ring_10 : decode cX3_ring 10 = .ok (.getfield 18, 3) := by decide +kernel
theorem dX3_ring_13 : decode cX3_ring 13 = .ok (.iload_n 1, 1) := by decide +kernel
theorem dX3_ring_14 : decode cX3_ring 14 = .ok (.aaload, 1) := by decide +kernel
theorem dX3_ring_15 : decode cX3_ring 15 = .ok (.astore_n 3, 1) := by decide +kernel
theorem dX3_ring_16 : decode cX3_ring 16 = .ok (.iload_n 2, 1) := by decide +kernel
theorem dX3_ring_17 : decode cX3_ring 17 = .ok (.tableswitch 82 0 6 #[43, 48, 53, 58, 63, 68, 77], 43) := by decide +kernel
theorem dX3_ring_60 : decode cX3_ring 60 = .ok (.aload_n 3, 1) := by decide +kernel
theorem dX3_ring_61 : decode cX3_ring 61 = .ok (.getfield 137, 3) := by decide +kernel
theorem dX3_ring_64 : decode cX3_ring 64 = .ok (.ireturn, 1) := by decide +kernel
theorem dX3_ring_65 : decode cX3_ring 65 = .ok (.aload_n 3, 1) := by decide +kernel
theorem dX3_ring_66 : decode cX3_ring 66 = .ok (.getfield 140, 3) := by decide +kernel
theorem dX3_ring_69 : decode cX3_ring 69 = .ok (.ireturn, 1) := by decide +kernel
theorem dX3_ring_70 : decode cX3_ring 70 = .ok (.aload_n 3, 1) := by decide +kernel
theorem dX3_ring_71 : decode cX3_ring 71 = .ok (.getfield 143, 3) := by decide +kernel
theorem dX3_ring_74 : decode cX3_ring 74 = .ok (.ireturn, 1) := by decide +kernel
theorem dX3_ring_75 : decode cX3_ring 75 = .ok (.aload_n 3, 1) := by decide +kernel
theorem dX3_ring_76 : decode cX3_ring 76 = .ok (.getfield 146, 3) := by decide +kernel
theorem dX3_ring_79 : decode cX3_ring 79 = .ok (.ireturn, 1) := by decide +kernel
theorem dX3_ring_80 : decode cX3_ring 80 = .ok (.aload_n 3, 1) := by decide +kernel
theorem dX3_ring_81 : decode cX3_ring 81 = .ok (.getfield 149, 3) := by decide +kernel
theorem dX3_ring_84 : decode cX3_ring 84 = .ok (.ireturn, 1) := by decide +kernel
theorem dX3_ring_85 : decode cX3_ring 85 = .ok (.aload_n 0, 1) := by decide +kernel
theorem dX3_ring_86 : decode cX3_ring 86 = .ok (.aload_n 3, 1) := by decide +kernel
theorem dX3_ring_87 : decode cX3_ring 87 = .ok (.invokevirtual 152, 3) := by decide +kernel
theorem dX3_ring_90 : decode cX3_ring 90 = .ok (.invokestatic 124, 3) := by decide +kernel
theorem dX3_ring_93 : decode cX3_ring 93 = .ok (.ireturn, 1) := by decide +kernel
theorem dX3_ring_94 : decode cX3_ring 94 = .ok (.aload_n 3, 1) := by decide +kernel
theorem dX3_ring_95 : decode cX3_ring 95 = .ok (.getfield 100, 3) := by decide +kernel
theorem dX3_ring_98 : decode cX3_ring 98 = .ok (.ireturn, 1) := by decide +kernel
theorem dX3_ring_99 : decode cX3_ring 99 = .ok (.iconst (-1), 1) := by decide +kernel
theorem dX3_ring_100 : decode cX3_ring 100 = .ok (.ireturn, 1) := by decide +kernel
theorem dX3_state_0 : decode cX3_state 0 = .ok (.iload_n 1, 1) := by decide +kernel
theorem dX3_state_1 : decode cX3_state 1 = .ok (.tableswitch 66 0 4 #[35, 40, 45, 53, 61], 35) := by decide +kernel
theorem dX3_state_36 : decode cX3_state 36 = .ok (.aload_n 0, 1) := by decide +kernel
theorem dX3_state_37 : decode cX3_state 37 = .ok (.getfield 156, 3) := by decide +kernel
theorem dX3_state_40 : decode cX3_state 40 = .ok (.ireturn, 1) := by decide +kernel
theorem dX3_state_41 : decode cX3_state 41 = .ok (.aload_n 0, 1) := by decide +kernel
theorem dX3_state_42 : decode cX3_state 42 = .ok (.getfield 106, 3) := by decide +kernel
theorem dX3_state_45 : decode cX3_state 45 = .ok (.ireturn, 1) := by decide +kernel
theorem dX3_state_46 : decode cX3_state 46 = .ok (.aload_n 0, 1) := by decide +kernel
theorem dX3_state_47 : decode cX3_state 47 = .ok (.getfield 103, 3) := by decide +kernel
theorem dX3_state_50 : decode cX3_state 50 = .ok (.invokestatic 124, 3) := by decide +kernel
theorem dX3_state_53 : decode cX3_state 53 = .ok (.ireturn, 1) := by decide +kernel
theorem dX3_state_54 : decode cX3_state 54 = .ok (.aload_n 0, 1) := by decide +kernel
theorem dX3_state_55 : decode cX3_state 55 = .ok (.getfield 28, 3) := by decide +kernel
theorem dX3_state_58 : decode cX3_state 58 = .ok (.getfield 159, 3) := by decide +kernel
theorem dX3_state_61 : decode cX3_state 61 = .ok (.ireturn, 1) := by decide +kernel
theorem dX3_state_62 : decode cX3_state 62 = .ok (.aload_n 0, 1) := by decide +kernel
theorem dX3_state_63 : decode cX3_state 63 = .ok (.getfield 162, 3) := by decide +kernel
theorem dX3_state_66 : decode cX3_state 66 = .ok (.ireturn, 1) := by decide +kernel
theorem dX3_state_67 : decode cX3_state 67 = .ok (.iconst (-1), 1) := by decide +kernel
theorem dX3_state_68 : decode cX3_state 68 = .ok (.ireturn, 1) := by decide +kernel
theorem dX3_check_0 : decode cX3_check 0 = .ok (.iconst 0, 1) := by decide +kernel
theorem dX3_check_1 : decode cX3_check 1 = .ok (.istore_n 1, 1) := by decide +kernel
theorem dX3_check_2 : decode cX3_check 2 = .ok (.iload_n 1, 1) := by decide +kernel
theorem dX3_check_3 : decode cX3_check 3 = .ok (.bipush 8, 2) := by decide +kernel
theorem dX3_check_5 : decode cX3_check 5 = .ok (.if_icmp .ge 20, 3) := by decide +kernel
theorem dX3_check_8 : decode cX3_check 8 = .ok (.aload_n 0, 1) := by decide +kernel
theorem dX3_check_9 : decode cX3_check 9 = .ok (.getfield 32, 3) := by decide +kernel
theorem dX3_check_12 : decode cX3_check 12 = .ok (.iload_n 1, 1) := by decide +kernel
theorem dX3_check_13 : decode cX3_check 13 = .ok (.aload_n 0, 1) := by decide +kernel
theorem dX3_check_14 : decode cX3_check 14 = .ok (.iload_n 1, 1) := by decide +kernel
theorem dX3_check_15 : decode cX3_check 15 = .ok (.invokevirtual 165, 3) := by decide +kernel
theorem dX3_check_18 : decode cX3_check 18 = .ok (.iastore, 1) := by decide +kernel
theorem dX3_check_19 : decode cX3_check 19 = .ok (.iinc 1 1, 3) := by decide +kernel
theorem dX3_check_22 : decode cX3_check 22 = .ok (.goto (-20), 3) := by decide +kernel
theorem dX3_check_25 : decode cX3_check 25 = .ok (.aload_n 0, 1) := by decide +kernel
theorem dX3_check_26 : decode cX3_check 26 = .ok (.getfield 32, 3) := by decide +kernel
theorem dX3_check_29 : decode cX3_check 29 = .ok (.invokestatic 168, 3) := by decide +kernel
theorem dX3_check_32 : decode cX3_check 32 = .ok (.ifCond .ne 7, 3) := by decide +kernel
theorem dX3_check_35 : decode cX3_check 35 = .ok (.iconst 1, 1) := by decide +kernel
theorem dX3_check_36 : decode cX3_check 36 = .ok (.goto 4, 3) := by decide +kernel
theorem dX3_check_39 : decode cX3_check 39 = .ok (.iconst 0, 1) := by decide +kernel
theorem dX3_check_40 : decode cX3_check 40 = .ok (.invokestatic 124, 3) := by decide +kernel
theorem dX3_check_43 : decode cX3_check 43 = .ok (.ireturn, 1) := by decide +kernel
theorem dX3_tick_0 : decode cX3_tick 0 = .ok (.aload_n 0, 1) := by decide +kernel
theorem dX3_tick_1 : decode cX3_tick 1 = .ok (.dup, 1) := by decide +kernel
theorem dX3_tick_2 : decode cX3_tick 2 = .ok (.getfield 156, 3) := by decide +kernel
theorem dX3_tick_5 : decode cX3_tick 5 = .ok (.iconst 1, 1) := by decide +kernel
theorem dX3_tick_6 : decode cX3_tick 6 = .ok (.iadd, 1) := by decide +kernel
theorem dX3_tick_7 : decode cX3_tick 7 = .ok (.putfield 156, 3) := by decide +kernel
theorem dX3_tick_10 : decode cX3_tick 10 = .ok (.aload_n 0, 1) := by decide +kernel
theorem dX3_tick_11 : decode cX3_tick 11 = .ok (.invokevirtual 93, 3) := by decide +kernel
theorem dX3_tick_14 : decode cX3_tick 14 = .ok (.ifCond .eq 5, 3) := by decide +kernel
theorem dX3_tick_17 : decode cX3_tick 17 = .ok (.iconst 0, 1) := by decide +kernel
theorem dX3_tick_18 : decode cX3_tick 18 = .ok (.ireturn, 1) := by decide +kernel
theorem dX3_tick_19 : decode cX3_tick 19 = .ok (.aload_n 0, 1) := by decide +kernel
theorem dX3_tick_20 : decode cX3_tick 20 = .ok (.invokevirtual 172, 3) := by decide +kernel
theorem dX3_tick_23 : decode cX3_tick 23 = .ok (.aload_n 0, 1) := by decide +kernel
theorem dX3_tick_24 : decode cX3_tick 24 = .ok (.invokevirtual 175, 3) := by decide +kernel
theorem dX3_tick_27 : decode cX3_tick 27 = .ok (.iconst 0, 1) := by decide +kernel
theorem dX3_tick_28 : decode cX3_tick 28 = .ok (.istore_n 1, 1) := by decide +kernel
theorem dX3_tick_29 : decode cX3_tick 29 = .ok (.iload_n 1, 1) := by decide +kernel
theorem dX3_tick_30 : decode cX3_tick 30 = .ok (.iconst 2, 1) := by decide +kernel
theorem dX3_tick_31 : decode cX3_tick 31 = .ok (.if_icmp .ge 19, 3) := by decide +kernel
theorem dX3_tick_34 : decode cX3_tick 34 = .ok (.aload_n 0, 1) := by decide +kernel
theorem dX3_tick_35 : decode cX3_tick 35 = .ok (.aload_n 0, 1) := by decide +kernel
theorem dX3_tick_36 : decode cX3_tick 36 = .ok (.getfield 18, 3) := by decide +kernel
theorem dX3_tick_39 : decode cX3_tick 39 = .ok (.iload_n 1, 1) := by decide +kernel
theorem dX3_tick_40 : decode cX3_tick 40 = .ok (.aaload, 1) := by decide +kernel
theorem dX3_tick_41 : decode cX3_tick 41 = .ok (.invokevirtual 178, 3) := by decide +kernel
theorem dX3_tick_44 : decode cX3_tick 44 = .ok (.iinc 1 1, 3) := by decide +kernel
theorem dX3_tick_47 : decode cX3_tick 47 = .ok (.goto (-18), 3) := by decide +kernel
theorem dX3_tick_50 : decode cX3_tick 50 = .ok (.aload_n 0, 1) := by decide +kernel
theorem dX3_tick_51 : decode cX3_tick 51 = .ok (.invokevirtual 182, 3) := by decide +kernel
theorem dX3_tick_54 : decode cX3_tick 54 = .ok (.aload_n 0, 1) := by decide +kernel
theorem dX3_tick_55 : decode cX3_tick 55 = .ok (.getfield 103, 3) := by decide +kernel
theorem dX3_tick_58 : decode cX3_tick 58 = .ok (.ifCond .eq 31, 3) := by decide +kernel
theorem dX3_tick_61 : decode cX3_tick 61 = .ok (.aload_n 0, 1) := by decide +kernel
theorem dX3_tick_62 : decode cX3_tick 62 = .ok (.getfield 18, 3) := by decide +kernel
theorem dX3_tick_65 : decode cX3_tick 65 = .ok (.iconst 0, 1) := by decide +kernel
theorem dX3_tick_66 : decode cX3_tick 66 = .ok (.aaload, 1) := by decide +kernel
theorem dX3_tick_67 : decode cX3_tick 67 = .ok (.getfield 140, 3) := by decide +kernel
theorem dX3_tick_70 : decode cX3_tick 70 = .ok (.ifCond .ne 19, 3) := by decide +kernel
theorem dX3_tick_73 : decode cX3_tick 73 = .ok (.aload_n 0, 1) := by decide +kernel
theorem dX3_tick_74 : decode cX3_tick 74 = .ok (.getfield 18, 3) := by decide +kernel
theorem dX3_tick_77 : decode cX3_tick 77 = .ok (.iconst 1, 1) := by decide +kernel
theorem dX3_tick_78 : decode cX3_tick 78 = .ok (.aaload, 1) := by decide +kernel
theorem dX3_tick_79 : decode cX3_tick 79 = .ok (.getfield 140, 3) := by decide +kernel
theorem dX3_tick_82 : decode cX3_tick 82 = .ok (.ifCond .ne 7, 3) := by decide +kernel
theorem dX3_tick_85 : decode cX3_tick 85 = .ok (.aload_n 0, 1) := by decide +kernel
theorem dX3_tick_86 : decode cX3_tick 86 = .ok (.invokevirtual 185, 3) := by decide +kernel
theorem dX3_tick_89 : decode cX3_tick 89 = .ok (.aload_n 0, 1) := by decide +kernel
theorem dX3_tick_90 : decode cX3_tick 90 = .ok (.invokevirtual 188, 3) := by decide +kernel
theorem dX3_tick_93 : decode cX3_tick 93 = .ok (.istore_n 1, 1) := by decide +kernel
theorem dX3_tick_94 : decode cX3_tick 94 = .ok (.aload_n 0, 1) := by decide +kernel
theorem dX3_tick_95 : decode cX3_tick 95 = .ok (.invokevirtual 191, 3) := by decide +kernel
theorem dX3_tick_98 : decode cX3_tick 98 = .ok (.iload_n 1, 1) := by decide +kernel
theorem dX3_tick_99 : decode cX3_tick 99 = .ok (.ireturn, 1) := by decide +kernel
theorem dX3_countWaits_0 : decode cX3_countWaits 0 = .ok (.iconst 0, 1) := by decide +kernel
theorem dX3_countWaits_1 : decode cX3_countWaits 1 = .ok (.istore_n 1, 1) := by decide +kernel
theorem dX3_countWaits_2 : decode cX3_countWaits 2 = .ok (.iload_n 1, 1) := by decide +kernel
theorem dX3_countWaits_3 : decode cX3_countWaits 3 = .ok (.bipush 8, 2) := by decide +kernel
theorem dX3_countWaits_5 : decode cX3_countWaits 5 = .ok (.if_icmp .ge 23, 3) := by decide +kernel
theorem dX3_countWaits_8 : decode cX3_countWaits 8 = .ok (.aload_n 0, 1) := by decide +kernel
theorem dX3_countWaits_9 : decode cX3_countWaits 9 = .ok (.getfield 11, 3) := by decide +kernel
theorem dX3_countWaits_12 : decode cX3_countWaits 12 = .ok (.iload_n 1, 1) := by decide +kernel
theorem dX3_countWaits_13 : decode cX3_countWaits 13 = .ok (.aaload, 1) := by decide +kernel
theorem dX3_countWaits_14 : decode cX3_countWaits 14 = .ok (.aload_n 0, 1) := by decide +kernel
theorem dX3_countWaits_15 : decode cX3_countWaits 15 = .ok (.iload_n 1, 1) := by decide +kernel
theorem dX3_countWaits_16 : decode cX3_countWaits 16 = .ok (.invokevirtual 121, 3) := by decide +kernel
theorem dX3_countWaits_19 : decode cX3_countWaits 19 = .ok (.invokevirtual 194, 3) := by decide +kernel
theorem dX3_countWaits_22 : decode cX3_countWaits 22 = .ok (.iinc 1 1, 3) := by decide +kernel
theorem dX3_countWaits_25 : decode cX3_countWaits 25 = .ok (.goto (-23), 3) := by decide +kernel
theorem dX3_countWaits_28 : decode cX3_countWaits 28 = .ok (.return_, 1) := by decide +kernel
theorem dX3_advanceRings_0 : decode cX3_advanceRings 0 = .ok (.aload_n 0, 1) := by decide +kernel
theorem dX3_advanceRings_1 : decode cX3_advanceRings 1 = .ok (.iconst 0, 1) := by decide +kernel
theorem dX3_advanceRings_2 : decode cX3_advanceRings 2 = .ok (.invokevirtual 198, 3) := by decide +kernel
theorem dX3_advanceRings_5 : decode cX3_advanceRings 5 = .ok (.ifCond .ne 11, 3) := by decide +kernel
theorem dX3_advanceRings_8 : decode cX3_advanceRings 8 = .ok (.aload_n 0, 1) := by decide +kernel
theorem dX3_advanceRings_9 : decode cX3_advanceRings 9 = .ok (.iconst 1, 1) := by decide +kernel
theorem dX3_advanceRings_10 : decode cX3_advanceRings 10 = .ok (.invokevirtual 198, 3) := by decide +kernel
theorem dX3_advanceRings_13 : decode cX3_advanceRings 13 = .ok (.ifCond .eq 7, 3) := by decide +kernel
theorem dX3_advanceRings_16 : decode cX3_advanceRings 16 = .ok (.iconst 1, 1) := by decide +kernel
theorem dX3_advanceRings_17 : decode cX3_advanceRings 17 = .ok (.goto 4, 3) := by decide +kernel
theorem dX3_advanceRings_20 : decode cX3_advanceRings 20 = .ok (.iconst 0, 1) := by decide +kernel
theorem dX3_advanceRings_21 : decode cX3_advanceRings 21 = .ok (.istore_n 1, 1) := by decide +kernel
theorem dX3_advanceRings_22 : decode cX3_advanceRings 22 = .ok (.iconst 0, 1) := by decide +kernel
theorem dX3_advanceRings_23 : decode cX3_advanceRings 23 = .ok (.istore_n 2, 1) := by decide +kernel
theorem dX3_advanceRings_24 : decode cX3_advanceRings 24 = .ok (.iload_n 2, 1) := by decide +kernel
theorem dX3_advanceRings_25 : decode cX3_advanceRings 25 = .ok (.iconst 2, 1) := by decide +kernel
theorem dX3_advanceRings_26 : decode cX3_advanceRings 26 = .ok (.if_icmp .ge 61, 3) := by decide +kernel
theorem dX3_advanceRings_29 : decode cX3_advanceRings 29 = .ok (.aload_n 0, 1) := by decide +kernel
theorem dX3_advanceRings_30 : decode cX3_advanceRings 30 = .ok (.getfield 18, 3) := by decide +kernel
theorem dX3_advanceRings_33 : decode cX3_advanceRings 33 = .ok (.iload_n 2, 1) := by decide +kernel
theorem dX3_advanceRings_34 : decode cX3_advanceRings 34 = .ok (.aaload, 1) := by decide +kernel
theorem dX3_advanceRings_35 : decode cX3_advanceRings 35 = .ok (.astore_n 3, 1) := by decide +kernel
theorem dX3_advanceRings_36 : decode cX3_advanceRings 36 = .ok (.aload_n 3, 1) := by decide +kernel
theorem dX3_advanceRings_37 : decode cX3_advanceRings 37 = .ok (.getfield 140, 3) := by decide +kernel
theorem dX3_advanceRings_40 : decode cX3_advanceRings 40 = .ok (.iconst 1, 1) := by decide +kernel
theorem dX3_advanceRings_41 : decode cX3_advanceRings 41 = .ok (.if_icmp .ne 20, 3) := by decide +kernel
theorem dX3_advanceRings_44 : decode cX3_advanceRings 44 = .ok (.aload_n 3, 1) := by decide +kernel
theorem dX3_advanceRings_45 : decode cX3_advanceRings 45 = .ok (.aload_n 0, 1) := by decide +kernel
theorem dX3_advanceRings_46 : decode cX3_advanceRings 46 = .ok (.getfield 11, 3) := by decide +kernel
theorem dX3_advanceRings_49 : decode cX3_advanceRings 49 = .ok (.aload_n 3, 1) := by decide +kernel
theorem dX3_advanceRings_50 : decode cX3_advanceRings 50 = .ok (.getfield 137, 3) := by decide +kernel
theorem dX3_advanceRings_53 : decode cX3_advanceRings 53 = .ok (.aaload, 1) := by decide +kernel
theorem dX3_advanceRings_54 : decode cX3_advanceRings 54 = .ok (.iload_n 1, 1) := by decide +kernel
theorem dX3_advanceRings_55 : decode cX3_advanceRings 55 = .ok (.invokevirtual 201, 3) := by decide +kernel
theorem dX3_advanceRings_58 : decode cX3_advanceRings 58 = .ok (.goto 23, 3) := by decide +kernel
theorem dX3_advanceRings_61 : decode cX3_advanceRings 61 = .ok (.aload_n 3, 1) := by decide +kernel
theorem dX3_advanceRings_62 : decode cX3_advanceRings 62 = .ok (.getfield 140, 3) := by decide +kernel
theorem dX3_advanceRings_65 : decode cX3_advanceRings 65 = .ok (.ifCond .eq 16, 3) := by decide +kernel
theorem dX3_advanceRings_68 : decode cX3_advanceRings 68 = .ok (.aload_n 3, 1) := by decide +kernel
theorem dX3_advanceRings_69 : decode cX3_advanceRings 69 = .ok (.aload_n 0, 1) := by decide +kernel
theorem dX3_advanceRings_70 : decode cX3_advanceRings 70 = .ok (.getfield 11, 3) := by decide +kernel
theorem dX3_advanceRings_73 : decode cX3_advanceRings 73 = .ok (.aload_n 3, 1) := by decide +kernel
theorem dX3_advanceRings_74 : decode cX3_advanceRings 74 = .ok (.getfield 137, 3) := by decide +kernel
theorem dX3_advanceRings_77 : decode cX3_advanceRings 77 = .ok (.aaload, 1) := by decide +kernel
theorem dX3_advanceRings_78 : decode cX3_advanceRings 78 = .ok (.invokevirtual 205, 3) := by decide +kernel
theorem dX3_advanceRings_81 : decode cX3_advanceRings 81 = .ok (.iinc 2 1, 3) := by decide +kernel
theorem dX3_advanceRings_84 : decode cX3_advanceRings 84 = .ok (.goto (-60), 3) := by decide +kernel
theorem dX3_advanceRings_87 : decode cX3_advanceRings 87 = .ok (.return_, 1) := by decide +kernel
theorem dX3_goOnWithinSide_0 : decode cX3_goOnWithinSide 0 = .ok (.aload_n 1, 1) := by decide +kernel
theorem dX3_goOnWithinSide_1 : decode cX3_goOnWithinSide 1 = .ok (.aload_n 0, 1) := by decide +kernel
theorem dX3_goOnWithinSide_2 : decode cX3_goOnWithinSide 2 = .ok (.getfield 106, 3) := by decide +kernel
theorem dX3_goOnWithinSide_5 : decode cX3_goOnWithinSide 5 = .ok (.invokevirtual 63, 3) := by decide +kernel
theorem dX3_goOnWithinSide_8 : decode cX3_goOnWithinSide 8 = .ok (.istore_n 2, 1) := by decide +kernel
theorem dX3_goOnWithinSide_9 : decode cX3_goOnWithinSide 9 = .ok (.aload_n 0, 1) := by decide +kernel
theorem dX3_goOnWithinSide_10 : decode cX3_goOnWithinSide 10 = .ok (.aload_n 1, 1) := by decide +kernel
theorem dX3_goOnWithinSide_11 : decode cX3_goOnWithinSide 11 = .ok (.invokevirtual 152, 3) := by decide +kernel
theorem dX3_goOnWithinSide_14 : decode cX3_goOnWithinSide 14 = .ok (.ifCond .eq 31, 3) := by decide +kernel
theorem dX3_goOnWithinSide_17 : decode cX3_goOnWithinSide 17 = .ok (.aload_n 1, 1) := by decide +kernel
theorem dX3_goOnWithinSide_18 : decode cX3_goOnWithinSide 18 = .ok (.getfield 137, 3) := by decide +kernel
theorem dX3_goOnWithinSide_21 : decode cX3_goOnWithinSide 21 = .ok (.aload_n 1, 1) := by decide +kernel
theorem dX3_goOnWithinSide_22 : decode cX3_goOnWithinSide 22 = .ok (.aload_n 0, 1) := by decide +kernel
theorem dX3_goOnWithinSide_23 : decode cX3_goOnWithinSide 23 = .ok (.getfield 106, 3) := by decide +kernel
theorem dX3_goOnWithinSide_26 : decode cX3_goOnWithinSide 26 = .ok (.invokevirtual 56, 3) := by decide +kernel
theorem dX3_goOnWithinSide_29 : decode cX3_goOnWithinSide 29 = .ok (.if_icmp .ne 16, 3) := by decide +kernel
theorem dX3_goOnWithinSide_32 : decode cX3_goOnWithinSide 32 = .ok (.aload_n 0, 1) := by decide +kernel
theorem dX3_goOnWithinSide_33 : decode cX3_goOnWithinSide 33 = .ok (.iload_n 2, 1) := by decide +kernel
theorem dX3_goOnWithinSide_34 : decode cX3_goOnWithinSide 34 = .ok (.invokevirtual 121, 3) := by decide +kernel
theorem dX3_goOnWithinSide_37 : decode cX3_goOnWithinSide 37 = .ok (.ifCond .eq 8, 3) := by decide +kernel
theorem dX3_goOnWithinSide_40 : decode cX3_goOnWithinSide 40 = .ok (.aload_n 1, 1) := by decide +kernel
theorem dX3_goOnWithinSide_41 : decode cX3_goOnWithinSide 41 = .ok (.iload_n 2, 1) := by decide +kernel
theorem dX3_goOnWithinSide_42 : decode cX3_goOnWithinSide 42 = .ok (.invokevirtual 209, 3) := by decide +kernel
theorem dX3_goOnWithinSide_45 : decode cX3_goOnWithinSide 45 = .ok (.aload_n 1, 1) := by decide +kernel
theorem dX3_goOnWithinSide_46 : decode cX3_goOnWithinSide 46 = .ok (.invokestatic 212, 3) := by decide +kernel
theorem dX3_goOnWithinSide_49 : decode cX3_goOnWithinSide 49 = .ok (.ifCond .eq 23, 3) := by decide +kernel
theorem dX3_goOnWithinSide_52 : decode cX3_goOnWithinSide 52 = .ok (.aload_n 0, 1) := by decide +kernel
theorem dX3_goOnWithinSide_53 : decode cX3_goOnWithinSide 53 = .ok (.getfield 103, 3) := by decide +kernel
theorem dX3_goOnWithinSide_56 : decode cX3_goOnWithinSide 56 = .ok (.ifCond .ne 16, 3) := by decide +kernel
theorem dX3_goOnWithinSide_59 : decode cX3_goOnWithinSide 59 = .ok (.aload_n 1, 1) := by decide +kernel
theorem dX3_goOnWithinSide_60 : decode cX3_goOnWithinSide 60 = .ok (.aload_n 0, 1) := by decide +kernel
theorem dX3_goOnWithinSide_61 : decode cX3_goOnWithinSide 61 = .ok (.aload_n 1, 1) := by decide +kernel
theorem dX3_goOnWithinSide_62 : decode cX3_goOnWithinSide 62 = .ok (.aload_n 0, 1) := by decide +kernel
theorem dX3_goOnWithinSide_63 : decode cX3_goOnWithinSide 63 = .ok (.getfield 106, 3) := by decide +kernel
theorem dX3_goOnWithinSide_66 : decode cX3_goOnWithinSide 66 = .ok (.invokevirtual 215, 3) := by decide +kernel
theorem dX3_goOnWithinSide_69 : decode cX3_goOnWithinSide 69 = .ok (.putfield 100, 3) := by decide +kernel
theorem dX3_goOnWithinSide_72 : decode cX3_goOnWithinSide 72 = .ok (.return_, 1) := by decide +kernel
theorem dX3_leaveSideOrTurnBack_0 : decode cX3_leaveSideOrTurnBack 0 = .ok (.aload_n 0, 1) := by decide +kernel
theorem dX3_leaveSideOrTurnBack_1 : decode cX3_leaveSideOrTurnBack 1 = .ok (.getfield 103, 3) := by decide +kernel
theorem dX3_leaveSideOrTurnBack_4 : decode cX3_leaveSideOrTurnBack 4 = .ok (.ifCond .eq 4, 3) := by decide +kernel
theorem dX3_leaveSideOrTurnBack_7 : decode cX3_leaveSideOrTurnBack 7 = .ok (.return_, 1) := by decide +kernel
theorem dX3_leaveSideOrTurnBack_8 : decode cX3_leaveSideOrTurnBack 8 = .ok (.aload_n 0, 1) := by decide +kernel
theorem dX3_leaveSideOrTurnBack_9 : decode cX3_leaveSideOrTurnBack 9 = .ok (.iconst 1, 1) := by decide +kernel
theorem dX3_leaveSideOrTurnBack_10 : decode cX3_leaveSideOrTurnBack 10 = .ok (.aload_n 0, 1) := by decide +kernel
theorem dX3_leaveSideOrTurnBack_11 : decode cX3_leaveSideOrTurnBack 11 = .ok (.getfield 106, 3) := by decide +kernel
theorem dX3_leaveSideOrTurnBack_14 : decode cX3_leaveSideOrTurnBack 14 = .ok (.isub, 1) := by decide +kernel
theorem dX3_leaveSideOrTurnBack_15 : decode cX3_leaveSideOrTurnBack 15 = .ok (.invokevirtual 198, 3) := by decide +kernel
theorem dX3_leaveSideOrTurnBack_18 : decode cX3_leaveSideOrTurnBack 18 = .ok (.ifCond .ne 29, 3) := by decide +kernel
theorem dX3_leaveSideOrTurnBack_21 : decode cX3_leaveSideOrTurnBack 21 = .ok (.iconst 0, 1) := by decide +kernel
theorem dX3_leaveSideOrTurnBack_22 : decode cX3_leaveSideOrTurnBack 22 = .ok (.istore_n 1, 1) := by decide +kernel
theorem dX3_leaveSideOrTurnBack_23 : decode cX3_leaveSideOrTurnBack 23 = .ok (.iload_n 1, 1) := by decide +kernel
theorem dX3_leaveSideOrTurnBack_24 : decode cX3_leaveSideOrTurnBack 24 = .ok (.iconst 2, 1) := by decide +kernel
theorem dX3_leaveSideOrTurnBack_25 : decode cX3_leaveSideOrTurnBack 25 = .ok (.if_icmp .ge 19, 3) := by decide +kernel
theorem dX3_leaveSideOrTurnBack_28 : decode cX3_leaveSideOrTurnBack 28 = .ok (.aload_n 0, 1) := by decide +kernel
theorem dX3_leaveSideOrTurnBack_29 : decode cX3_leaveSideOrTurnBack 29 = .ok (.aload_n 0, 1) := by decide +kernel
theorem dX3_leaveSideOrTurnBack_30 : decode cX3_leaveSideOrTurnBack 30 = .ok (.getfield 18, 3) := by decide +kernel
theorem dX3_leaveSideOrTurnBack_33 : decode cX3_leaveSideOrTurnBack 33 = .ok (.iload_n 1, 1) := by decide +kernel
theorem dX3_leaveSideOrTurnBack_34 : decode cX3_leaveSideOrTurnBack 34 = .ok (.aaload, 1) := by decide +kernel
theorem dX3_leaveSideOrTurnBack_35 : decode cX3_leaveSideOrTurnBack 35 = .ok (.invokevirtual 219, 3) := by decide +kernel
theorem dX3_leaveSideOrTurnBack_38 : decode cX3_leaveSideOrTurnBack 38 = .ok (.iinc 1 1, 3) := by decide +kernel
theorem dX3_leaveSideOrTurnBack_41 : decode cX3_leaveSideOrTurnBack 41 = .ok (.goto (-18), 3) := by decide +kernel
theorem dX3_leaveSideOrTurnBack_44 : decode cX3_leaveSideOrTurnBack 44 = .ok (.goto 33, 3) := by decide +kernel
theorem dX3_leaveSideOrTurnBack_47 : decode cX3_leaveSideOrTurnBack 47 = .ok (.aload_n 0, 1) := by decide +kernel
theorem dX3_leaveSideOrTurnBack_48 : decode cX3_leaveSideOrTurnBack 48 = .ok (.aload_n 0, 1) := by decide +kernel
theorem dX3_leaveSideOrTurnBack_49 : decode cX3_leaveSideOrTurnBack 49 = .ok (.getfield 18, 3) := by decide +kernel
theorem dX3_leaveSideOrTurnBack_52 : decode cX3_leaveSideOrTurnBack 52 = .ok (.iconst 0, 1) := by decide +kernel
theorem dX3_leaveSideOrTurnBack_53 : decode cX3_leaveSideOrTurnBack 53 = .ok (.aaload, 1) := by decide +kernel
theorem dX3_leaveSideOrTurnBack_54 : decode cX3_leaveSideOrTurnBack 54 = .ok (.invokevirtual 222, 3) := by decide +kernel
theorem dX3_leaveSideOrTurnBack_57 : decode cX3_leaveSideOrTurnBack 57 = .ok (.ifCond .eq 20, 3) := by decide +kernel
theorem dX3_leaveSideOrTurnBack_60 : decode cX3_leaveSideOrTurnBack 60 = .ok (.aload_n 0, 1) := by decide +kernel
theorem dX3_leaveSideOrTurnBack_61 : decode cX3_leaveSideOrTurnBack 61 = .ok (.aload_n 0, 1) := by decide +kernel
theorem dX3_leaveSideOrTurnBack_62 : decode cX3_leaveSideOrTurnBack 62 = .ok (.getfield 18, 3) := by decide +kernel
theorem dX3_leaveSideOrTurnBack_65 : decode cX3_leaveSideOrTurnBack 65 = .ok (.iconst 1, 1) := by decide +kernel
theorem dX3_leaveSideOrTurnBack_66 : decode cX3_leaveSideOrTurnBack 66 = .ok (.aaload, 1) := by decide +kernel
theorem dX3_leaveSideOrTurnBack_67 : decode cX3_leaveSideOrTurnBack 67 = .ok (.invokevirtual 222, 3) := by decide +kernel
theorem dX3_leaveSideOrTurnBack_70 : decode cX3_leaveSideOrTurnBack 70 = .ok (.ifCond .eq 7, 3) := by decide +kernel
theorem dX3_leaveSideOrTurnBack_73 : decode cX3_leaveSideOrTurnBack 73 = .ok (.aload_n 0, 1) := by decide +kernel
theorem dX3_leaveSideOrTurnBack_74 : decode cX3_leaveSideOrTurnBack 74 = .ok (.invokevirtual 225, 3) := by decide +kernel
theorem dX3_leaveSideOrTurnBack_77 : decode cX3_leaveSideOrTurnBack 77 = .ok (.return_, 1) := by decide +kernel
theorem dX3_turnBackToFirst_0 : decode cX3_turnBackToFirst 0 = .ok (.aload_n 1, 1) := by decide +kernel
theorem dX3_turnBackToFirst_1 : decode cX3_turnBackToFirst 1 = .ok (.aload_n 0, 1) := by decide +kernel
theorem dX3_turnBackToFirst_2 : decode cX3_turnBackToFirst 2 = .ok (.getfield 106, 3) := by decide +kernel
theorem dX3_turnBackToFirst_5 : decode cX3_turnBackToFirst 5 = .ok (.invokevirtual 56, 3) := by decide +kernel
theorem dX3_turnBackToFirst_8 : decode cX3_turnBackToFirst 8 = .ok (.istore_n 2, 1) := by decide +kernel
theorem dX3_turnBackToFirst_9 : decode cX3_turnBackToFirst 9 = .ok (.aload_n 0, 1) := by decide +kernel
theorem dX3_turnBackToFirst_10 : decode cX3_turnBackToFirst 10 = .ok (.aload_n 1, 1) := by decide +kernel
theorem dX3_turnBackToFirst_11 : decode cX3_turnBackToFirst 11 = .ok (.invokevirtual 152, 3) := by decide +kernel
theorem dX3_turnBackToFirst_14 : decode cX3_turnBackToFirst 14 = .ok (.ifCond .eq 31, 3) := by decide +kernel
theorem dX3_turnBackToFirst_17 : decode cX3_turnBackToFirst 17 = .ok (.aload_n 1, 1) := by decide +kernel
theorem dX3_turnBackToFirst_18 : decode cX3_turnBackToFirst 18 = .ok (.getfield 137, 3) := by decide +kernel
theorem dX3_turnBackToFirst_21 : decode cX3_turnBackToFirst 21 = .ok (.aload_n 1, 1) := by decide +kernel
theorem dX3_turnBackToFirst_22 : decode cX3_turnBackToFirst 22 = .ok (.aload_n 0, 1) := by decide +kernel
theorem dX3_turnBackToFirst_23 : decode cX3_turnBackToFirst 23 = .ok (.getfield 106, 3) := by decide +kernel
theorem dX3_turnBackToFirst_26 : decode cX3_turnBackToFirst 26 = .ok (.invokevirtual 63, 3) := by decide +kernel
theorem dX3_turnBackToFirst_29 : decode cX3_turnBackToFirst 29 = .ok (.if_icmp .ne 16, 3) := by decide +kernel
theorem dX3_turnBackToFirst_32 : decode cX3_turnBackToFirst 32 = .ok (.aload_n 0, 1) := by decide +kernel
theorem dX3_turnBackToFirst_33 : decode cX3_turnBackToFirst 33 = .ok (.iload_n 2, 1) := by decide +kernel
theorem dX3_turnBackToFirst_34 : decode cX3_turnBackToFirst 34 = .ok (.invokevirtual 121, 3) := by decide +kernel
theorem dX3_turnBackToFirst_37 : decode cX3_turnBackToFirst 37 = .ok (.ifCond .eq 8, 3) := by decide +kernel
theorem dX3_turnBackToFirst_40 : decode cX3_turnBackToFirst 40 = .ok (.aload_n 1, 1) := by decide +kernel
theorem dX3_turnBackToFirst_41 : decode cX3_turnBackToFirst 41 = .ok (.iload_n 2, 1) := by decide +kernel
theorem dX3_turnBackToFirst_42 : decode cX3_turnBackToFirst 42 = .ok (.invokevirtual 209, 3) := by decide +kernel
theorem dX3_turnBackToFirst_45 : decode cX3_turnBackToFirst 45 = .ok (.return_, 1) := by decide +kernel
theorem dX3_beginCrossing_0 : decode cX3_beginCrossing 0 = .ok (.aload_n 0, 1) := by decide +kernel
theorem dX3_beginCrossing_1 : decode cX3_beginCrossing 1 = .ok (.iconst 1, 1) := by decide +kernel
theorem dX3_beginCrossing_2 : decode cX3_beginCrossing 2 = .ok (.putfield 103, 3) := by decide +kernel
theorem dX3_beginCrossing_5 : decode cX3_beginCrossing 5 = .ok (.aload_n 0, 1) := by decide +kernel
theorem dX3_beginCrossing_6 : decode cX3_beginCrossing 6 = .ok (.dup, 1) := by decide +kernel
theorem dX3_beginCrossing_7 : decode cX3_beginCrossing 7 = .ok (.getfield 162, 3) := by decide +kernel
theorem dX3_beginCrossing_10 : decode cX3_beginCrossing 10 = .ok (.iconst 1, 1) := by decide +kernel
theorem dX3_beginCrossing_11 : decode cX3_beginCrossing 11 = .ok (.iadd, 1) := by decide +kernel
theorem dX3_beginCrossing_12 : decode cX3_beginCrossing 12 = .ok (.putfield 162, 3) := by decide +kernel
theorem dX3_beginCrossing_15 : decode cX3_beginCrossing 15 = .ok (.iconst 0, 1) := by decide +kernel
theorem dX3_beginCrossing_16 : decode cX3_beginCrossing 16 = .ok (.istore_n 1, 1) := by decide +kernel
theorem dX3_beginCrossing_17 : decode cX3_beginCrossing 17 = .ok (.iload_n 1, 1) := by decide +kernel
theorem dX3_beginCrossing_18 : decode cX3_beginCrossing 18 = .ok (.iconst 2, 1) := by decide +kernel
theorem dX3_beginCrossing_19 : decode cX3_beginCrossing 19 = .ok (.if_icmp .ge 32, 3) := by decide +kernel
theorem dX3_beginCrossing_22 : decode cX3_beginCrossing 22 = .ok (.aload_n 0, 1) := by decide +kernel
theorem dX3_beginCrossing_23 : decode cX3_beginCrossing 23 = .ok (.getfield 18, 3) := by decide +kernel
theorem dX3_beginCrossing_26 : decode cX3_beginCrossing 26 = .ok (.iload_n 1, 1) := by decide +kernel
theorem dX3_beginCrossing_27 : decode cX3_beginCrossing 27 = .ok (.aaload, 1) := by decide +kernel
theorem dX3_beginCrossing_28 : decode cX3_beginCrossing 28 = .ok (.getfield 140, 3) := by decide +kernel
theorem dX3_beginCrossing_31 : decode cX3_beginCrossing 31 = .ok (.iconst 1, 1) := by decide +kernel
theorem dX3_beginCrossing_32 : decode cX3_beginCrossing 32 = .ok (.if_icmp .ne 13, 3) := by decide +kernel
theorem dX3_beginCrossing_35 : decode cX3_beginCrossing 35 = .ok (.aload_n 0, 1) := by decide +kernel
theorem dX3_beginCrossing_36 : decode cX3_beginCrossing 36 = .ok (.getfield 18, 3) := by decide +kernel
theorem dX3_beginCrossing_39 : decode cX3_beginCrossing 39 = .ok (.iload_n 1, 1) := by decide +kernel
theorem dX3_beginCrossing_40 : decode cX3_beginCrossing 40 = .ok (.aaload, 1) := by decide +kernel
theorem dX3_beginCrossing_41 : decode cX3_beginCrossing 41 = .ok (.iconst (-1), 1) := by decide +kernel
theorem dX3_beginCrossing_42 : decode cX3_beginCrossing 42 = .ok (.invokevirtual 209, 3) := by decide +kernel
theorem dX3_beginCrossing_45 : decode cX3_beginCrossing 45 = .ok (.iinc 1 1, 3) := by decide +kernel
theorem dX3_beginCrossing_48 : decode cX3_beginCrossing 48 = .ok (.goto (-31), 3) := by decide +kernel
theorem dX3_beginCrossing_51 : decode cX3_beginCrossing 51 = .ok (.return_, 1) := by decide +kernel
theorem dX3_endCrossing_0 : decode cX3_endCrossing 0 = .ok (.aload_n 0, 1) := by decide +kernel
theorem dX3_endCrossing_1 : decode cX3_endCrossing 1 = .ok (.iconst 0, 1) := by decide +kernel
theorem dX3_endCrossing_2 : decode cX3_endCrossing 2 = .ok (.putfield 103, 3) := by decide +kernel
theorem dX3_endCrossing_5 : decode cX3_endCrossing 5 = .ok (.aload_n 0, 1) := by decide +kernel
theorem dX3_endCrossing_6 : decode cX3_endCrossing 6 = .ok (.iconst 1, 1) := by decide +kernel
theorem dX3_endCrossing_7 : decode cX3_endCrossing 7 = .ok (.aload_n 0, 1) := by decide +kernel
theorem dX3_endCrossing_8 : decode cX3_endCrossing 8 = .ok (.getfield 106, 3) := by decide +kernel
theorem dX3_endCrossing_11 : decode cX3_endCrossing 11 = .ok (.isub, 1) := by decide +kernel
theorem dX3_endCrossing_12 : decode cX3_endCrossing 12 = .ok (.putfield 106, 3) := by decide +kernel
theorem dX3_endCrossing_15 : decode cX3_endCrossing 15 = .ok (.iconst 0, 1) := by decide +kernel
theorem dX3_endCrossing_16 : decode cX3_endCrossing 16 = .ok (.istore_n 1, 1) := by decide +kernel
theorem dX3_endCrossing_17 : decode cX3_endCrossing 17 = .ok (.iload_n 1, 1) := by decide +kernel
theorem dX3_endCrossing_18 : decode cX3_endCrossing 18 = .ok (.iconst 2, 1) := by decide +kernel
theorem dX3_endCrossing_19 : decode cX3_endCrossing 19 = .ok (.if_icmp .ge 48, 3) := by decide +kernel
theorem dX3_endCrossing_22 : decode cX3_endCrossing 22 = .ok (.aload_n 0, 1) := by decide +kernel
theorem dX3_endCrossing_23 : decode cX3_endCrossing 23 = .ok (.getfield 18, 3) := by decide +kernel
theorem dX3_endCrossing_26 : decode cX3_endCrossing 26 = .ok (.iload_n 1, 1) := by decide +kernel
theorem dX3_endCrossing_27 : decode cX3_endCrossing 27 = .ok (.aaload, 1) := by decide +kernel
theorem dX3_endCrossing_28 : decode cX3_endCrossing 28 = .ok (.astore_n 2, 1) := by decide +kernel
theorem dX3_endCrossing_29 : decode cX3_endCrossing 29 = .ok (.aload_n 0, 1) := by decide +kernel
theorem dX3_endCrossing_30 : decode cX3_endCrossing 30 = .ok (.aload_n 2, 1) := by decide +kernel
end
section
theorem dX3_endCrossing_31 : decode cX3_endCrossing 31 = .ok (.aload_n 0, 1) := by decide +kernel
theorem dX3_endCrossing_32 : decode cX3_endCrossing 32 = .ok (.getfield 106, 3) := by decide +kernel
theorem dX3_endCrossing_35 : decode cX3_endCrossing 35 = .ok (.invokevirtual 215, 3) := by decide +kernel
theorem dX3_endCrossing_38 : decode cX3_endCrossing 38 = .ok (.istore_n 3, 1) := by decide +kernel
theorem dX3_endCrossing_39 : decode cX3_endCrossing 39 = .ok (.aload_n 2, 1) := by decide +kernel
theorem dX3_endCrossing_40 : decode cX3_endCrossing 40 = .ok (.iload_n 3, 1) := by decide +kernel
theorem dX3_endCrossing_41 : decode cX3_endCrossing 41 = .ok (.iconst (-1), 1) := by decide +kernel
theorem dX3_endCrossing_42 : decode cX3_endCrossing 42 = .ok (.if_icmp .eq 7, 3) := by decide +kernel
theorem dX3_endCrossing_45 : decode cX3_endCrossing 45 = .ok (.iload_n 3, 1) := by decide +kernel
theorem dX3_endCrossing_46 : decode cX3_endCrossing 46 = .ok (.goto 12, 3) := by decide +kernel
theorem dX3_endCrossing_49 : decode cX3_endCrossing 49 = .ok (.aload_n 0, 1) := by decide +kernel
theorem dX3_endCrossing_50 : decode cX3_endCrossing 50 = .ok (.aload_n 2, 1) := by decide +kernel
theorem dX3_endCrossing_51 : decode cX3_endCrossing 51 = .ok (.aload_n 0, 1) := by decide +kernel
theorem dX3_endCrossing_52 : decode cX3_endCrossing 52 = .ok (.getfield 106, 3) := by decide +kernel
theorem dX3_endCrossing_55 : decode cX3_endCrossing 55 = .ok (.invokevirtual 228, 3) := by decide +kernel
theorem dX3_endCrossing_58 : decode cX3_endCrossing 58 = .ok (.putfield 100, 3) := by decide +kernel
theorem dX3_endCrossing_61 : decode cX3_endCrossing 61 = .ok (.iinc 1 1, 3) := by decide +kernel
theorem dX3_endCrossing_64 : decode cX3_endCrossing 64 = .ok (.goto (-47), 3) := by decide +kernel
theorem dX3_endCrossing_67 : decode cX3_endCrossing 67 = .ok (.return_, 1) := by decide +kernel
theorem dX3_beginGreens_0 : decode cX3_beginGreens 0 = .ok (.iconst 0, 1) := by decide +kernel
theorem dX3_beginGreens_1 : decode cX3_beginGreens 1 = .ok (.istore_n 1, 1) := by decide +kernel
theorem dX3_beginGreens_2 : decode cX3_beginGreens 2 = .ok (.iconst 0, 1) := by decide +kernel
theorem dX3_beginGreens_3 : decode cX3_beginGreens 3 = .ok (.istore_n 2, 1) := by decide +kernel
theorem dX3_beginGreens_4 : decode cX3_beginGreens 4 = .ok (.iload_n 2, 1) := by decide +kernel
theorem dX3_beginGreens_5 : decode cX3_beginGreens 5 = .ok (.iconst 2, 1) := by decide +kernel
theorem dX3_beginGreens_6 : decode cX3_beginGreens 6 = .ok (.if_icmp .ge 56, 3) := by decide +kernel
theorem dX3_beginGreens_9 : decode cX3_beginGreens 9 = .ok (.aload_n 0, 1) := by decide +kernel
theorem dX3_beginGreens_10 : decode cX3_beginGreens 10 = .ok (.getfield 18, 3) := by decide +kernel
theorem dX3_beginGreens_13 : decode cX3_beginGreens 13 = .ok (.iload_n 2, 1) := by decide +kernel
theorem dX3_beginGreens_14 : decode cX3_beginGreens 14 = .ok (.aaload, 1) := by decide +kernel
theorem dX3_beginGreens_15 : decode cX3_beginGreens 15 = .ok (.astore_n 3, 1) := by decide +kernel
theorem dX3_beginGreens_16 : decode cX3_beginGreens 16 = .ok (.aload_n 3, 1) := by decide +kernel
theorem dX3_beginGreens_17 : decode cX3_beginGreens 17 = .ok (.getfield 140, 3) := by decide +kernel
theorem dX3_beginGreens_20 : decode cX3_beginGreens 20 = .ok (.ifCond .ne 36, 3) := by decide +kernel
theorem dX3_beginGreens_23 : decode cX3_beginGreens 23 = .ok (.aload_n 3, 1) := by decide +kernel
theorem dX3_beginGreens_24 : decode cX3_beginGreens 24 = .ok (.getfield 100, 3) := by decide +kernel
theorem dX3_beginGreens_27 : decode cX3_beginGreens 27 = .ok (.iconst (-1), 1) := by decide +kernel
theorem dX3_beginGreens_28 : decode cX3_beginGreens 28 = .ok (.if_icmp .eq 28, 3) := by decide +kernel
theorem dX3_beginGreens_31 : decode cX3_beginGreens 31 = .ok (.aload_n 0, 1) := by decide +kernel
theorem dX3_beginGreens_32 : decode cX3_beginGreens 32 = .ok (.getfield 11, 3) := by decide +kernel
theorem dX3_beginGreens_35 : decode cX3_beginGreens 35 = .ok (.aload_n 3, 1) := by decide +kernel
theorem dX3_beginGreens_36 : decode cX3_beginGreens 36 = .ok (.getfield 100, 3) := by decide +kernel
theorem dX3_beginGreens_39 : decode cX3_beginGreens 39 = .ok (.aaload, 1) := by decide +kernel
theorem dX3_beginGreens_40 : decode cX3_beginGreens 40 = .ok (.astore 4, 2) := by decide +kernel
theorem dX3_beginGreens_42 : decode cX3_beginGreens 42 = .ok (.aload_n 3, 1) := by decide +kernel
theorem dX3_beginGreens_43 : decode cX3_beginGreens 43 = .ok (.aload 4, 2) := by decide +kernel
theorem dX3_beginGreens_45 : decode cX3_beginGreens 45 = .ok (.invokevirtual 231, 3) := by decide +kernel
theorem dX3_beginGreens_48 : decode cX3_beginGreens 48 = .ok (.aload 4, 2) := by decide +kernel
theorem dX3_beginGreens_50 : decode cX3_beginGreens 50 = .ok (.invokevirtual 234, 3) := by decide +kernel
theorem dX3_beginGreens_53 : decode cX3_beginGreens 53 = .ok (.iinc 1 1, 3) := by decide +kernel
theorem dX3_beginGreens_56 : decode cX3_beginGreens 56 = .ok (.iinc 2 1, 3) := by decide +kernel
theorem dX3_beginGreens_59 : decode cX3_beginGreens 59 = .ok (.goto (-55), 3) := by decide +kernel
theorem dX3_beginGreens_62 : decode cX3_beginGreens 62 = .ok (.iload_n 1, 1) := by decide +kernel
theorem dX3_beginGreens_63 : decode cX3_beginGreens 63 = .ok (.ireturn, 1) := by decide +kernel
theorem dX3_showLightsToGuard_0 : decode cX3_showLightsToGuard 0 = .ok (.iconst 0, 1) := by decide +kernel
theorem dX3_showLightsToGuard_1 : decode cX3_showLightsToGuard 1 = .ok (.istore_n 1, 1) := by decide +kernel
theorem dX3_showLightsToGuard_2 : decode cX3_showLightsToGuard 2 = .ok (.iload_n 1, 1) := by decide +kernel
theorem dX3_showLightsToGuard_3 : decode cX3_showLightsToGuard 3 = .ok (.bipush 8, 2) := by decide +kernel
theorem dX3_showLightsToGuard_5 : decode cX3_showLightsToGuard 5 = .ok (.if_icmp .ge 20, 3) := by decide +kernel
theorem dX3_showLightsToGuard_8 : decode cX3_showLightsToGuard 8 = .ok (.aload_n 0, 1) := by decide +kernel
theorem dX3_showLightsToGuard_9 : decode cX3_showLightsToGuard 9 = .ok (.getfield 32, 3) := by decide +kernel
theorem dX3_showLightsToGuard_12 : decode cX3_showLightsToGuard 12 = .ok (.iload_n 1, 1) := by decide +kernel
theorem dX3_showLightsToGuard_13 : decode cX3_showLightsToGuard 13 = .ok (.aload_n 0, 1) := by decide +kernel
theorem dX3_showLightsToGuard_14 : decode cX3_showLightsToGuard 14 = .ok (.iload_n 1, 1) := by decide +kernel
theorem dX3_showLightsToGuard_15 : decode cX3_showLightsToGuard 15 = .ok (.invokevirtual 112, 3) := by decide +kernel
theorem dX3_showLightsToGuard_18 : decode cX3_showLightsToGuard 18 = .ok (.iastore, 1) := by decide +kernel
theorem dX3_showLightsToGuard_19 : decode cX3_showLightsToGuard 19 = .ok (.iinc 1 1, 3) := by decide +kernel
theorem dX3_showLightsToGuard_22 : decode cX3_showLightsToGuard 22 = .ok (.goto (-20), 3) := by decide +kernel
theorem dX3_showLightsToGuard_25 : decode cX3_showLightsToGuard 25 = .ok (.aload_n 0, 1) := by decide +kernel
theorem dX3_showLightsToGuard_26 : decode cX3_showLightsToGuard 26 = .ok (.getfield 28, 3) := by decide +kernel
theorem dX3_showLightsToGuard_29 : decode cX3_showLightsToGuard 29 = .ok (.aload_n 0, 1) := by decide +kernel
theorem dX3_showLightsToGuard_30 : decode cX3_showLightsToGuard 30 = .ok (.getfield 32, 3) := by decide +kernel
theorem dX3_showLightsToGuard_33 : decode cX3_showLightsToGuard 33 = .ok (.invokevirtual 236, 3) := by decide +kernel
theorem dX3_showLightsToGuard_36 : decode cX3_showLightsToGuard 36 = .ok (.return_, 1) := by decide +kernel
theorem dX3_calledOn_0 : decode cX3_calledOn 0 = .ok (.aload_n 0, 1) := by decide +kernel
theorem dX3_calledOn_1 : decode cX3_calledOn 1 = .ok (.aload_n 1, 1) := by decide +kernel
theorem dX3_calledOn_2 : decode cX3_calledOn 2 = .ok (.iload_n 2, 1) := by decide +kernel
theorem dX3_calledOn_3 : decode cX3_calledOn 3 = .ok (.invokevirtual 56, 3) := by decide +kernel
theorem dX3_calledOn_6 : decode cX3_calledOn 6 = .ok (.invokevirtual 121, 3) := by decide +kernel
theorem dX3_calledOn_9 : decode cX3_calledOn 9 = .ok (.ifCond .eq 9, 3) := by decide +kernel
theorem dX3_calledOn_12 : decode cX3_calledOn 12 = .ok (.aload_n 1, 1) := by decide +kernel
theorem dX3_calledOn_13 : decode cX3_calledOn 13 = .ok (.iload_n 2, 1) := by decide +kernel
theorem dX3_calledOn_14 : decode cX3_calledOn 14 = .ok (.invokevirtual 56, 3) := by decide +kernel
theorem dX3_calledOn_17 : decode cX3_calledOn 17 = .ok (.ireturn, 1) := by decide +kernel
theorem dX3_calledOn_18 : decode cX3_calledOn 18 = .ok (.aload_n 0, 1) := by decide +kernel
theorem dX3_calledOn_19 : decode cX3_calledOn 19 = .ok (.aload_n 1, 1) := by decide +kernel
theorem dX3_calledOn_20 : decode cX3_calledOn 20 = .ok (.iload_n 2, 1) := by decide +kernel
theorem dX3_calledOn_21 : decode cX3_calledOn 21 = .ok (.invokevirtual 63, 3) := by decide +kernel
theorem dX3_calledOn_24 : decode cX3_calledOn 24 = .ok (.invokevirtual 121, 3) := by decide +kernel
theorem dX3_calledOn_27 : decode cX3_calledOn 27 = .ok (.ifCond .eq 11, 3) := by decide +kernel
theorem dX3_calledOn_30 : decode cX3_calledOn 30 = .ok (.aload_n 1, 1) := by decide +kernel
theorem dX3_calledOn_31 : decode cX3_calledOn 31 = .ok (.iload_n 2, 1) := by decide +kernel
theorem dX3_calledOn_32 : decode cX3_calledOn 32 = .ok (.invokevirtual 63, 3) := by decide +kernel
theorem dX3_calledOn_35 : decode cX3_calledOn 35 = .ok (.goto 4, 3) := by decide +kernel
theorem dX3_calledOn_38 : decode cX3_calledOn 38 = .ok (.iconst (-1), 1) := by decide +kernel
theorem dX3_calledOn_39 : decode cX3_calledOn 39 = .ok (.ireturn, 1) := by decide +kernel
theorem dX3_comingAlongOn_0 : decode cX3_comingAlongOn 0 = .ok (.aload_n 0, 1) := by decide +kernel
theorem dX3_comingAlongOn_1 : decode cX3_comingAlongOn 1 = .ok (.getfield 11, 3) := by decide +kernel
theorem dX3_comingAlongOn_4 : decode cX3_comingAlongOn 4 = .ok (.aload_n 1, 1) := by decide +kernel
theorem dX3_comingAlongOn_5 : decode cX3_comingAlongOn 5 = .ok (.iload_n 2, 1) := by decide +kernel
theorem dX3_comingAlongOn_6 : decode cX3_comingAlongOn 6 = .ok (.invokevirtual 56, 3) := by decide +kernel
theorem dX3_comingAlongOn_9 : decode cX3_comingAlongOn 9 = .ok (.aaload, 1) := by decide +kernel
theorem dX3_comingAlongOn_10 : decode cX3_comingAlongOn 10 = .ok (.invokevirtual 240, 3) := by decide +kernel
theorem dX3_comingAlongOn_13 : decode cX3_comingAlongOn 13 = .ok (.ifCond .eq 9, 3) := by decide +kernel
theorem dX3_comingAlongOn_16 : decode cX3_comingAlongOn 16 = .ok (.aload_n 1, 1) := by decide +kernel
theorem dX3_comingAlongOn_17 : decode cX3_comingAlongOn 17 = .ok (.iload_n 2, 1) := by decide +kernel
theorem dX3_comingAlongOn_18 : decode cX3_comingAlongOn 18 = .ok (.invokevirtual 56, 3) := by decide +kernel
theorem dX3_comingAlongOn_21 : decode cX3_comingAlongOn 21 = .ok (.ireturn, 1) := by decide +kernel
theorem dX3_comingAlongOn_22 : decode cX3_comingAlongOn 22 = .ok (.aload_n 0, 1) := by decide +kernel
theorem dX3_comingAlongOn_23 : decode cX3_comingAlongOn 23 = .ok (.getfield 11, 3) := by decide +kernel
theorem dX3_comingAlongOn_26 : decode cX3_comingAlongOn 26 = .ok (.aload_n 1, 1) := by decide +kernel
theorem dX3_comingAlongOn_27 : decode cX3_comingAlongOn 27 = .ok (.iload_n 2, 1) := by decide +kernel
theorem dX3_comingAlongOn_28 : decode cX3_comingAlongOn 28 = .ok (.invokevirtual 63, 3) := by decide +kernel
theorem dX3_comingAlongOn_31 : decode cX3_comingAlongOn 31 = .ok (.aaload, 1) := by decide +kernel
theorem dX3_comingAlongOn_32 : decode cX3_comingAlongOn 32 = .ok (.invokevirtual 240, 3) := by decide +kernel
theorem dX3_comingAlongOn_35 : decode cX3_comingAlongOn 35 = .ok (.ifCond .eq 11, 3) := by decide +kernel
theorem dX3_comingAlongOn_38 : decode cX3_comingAlongOn 38 = .ok (.aload_n 1, 1) := by decide +kernel
theorem dX3_comingAlongOn_39 : decode cX3_comingAlongOn 39 = .ok (.iload_n 2, 1) := by decide +kernel
theorem dX3_comingAlongOn_40 : decode cX3_comingAlongOn 40 = .ok (.invokevirtual 63, 3) := by decide +kernel
theorem dX3_comingAlongOn_43 : decode cX3_comingAlongOn 43 = .ok (.goto 4, 3) := by decide +kernel
theorem dX3_comingAlongOn_46 : decode cX3_comingAlongOn 46 = .ok (.iconst (-1), 1) := by decide +kernel
theorem dX3_comingAlongOn_47 : decode cX3_comingAlongOn 47 = .ok (.ireturn, 1) := by decide +kernel
theorem dX3_isAnyCalledOn_0 : decode cX3_isAnyCalledOn 0 = .ok (.iconst 0, 1) := by decide +kernel
theorem dX3_isAnyCalledOn_1 : decode cX3_isAnyCalledOn 1 = .ok (.istore_n 2, 1) := by decide +kernel
theorem dX3_isAnyCalledOn_2 : decode cX3_isAnyCalledOn 2 = .ok (.iload_n 2, 1) := by decide +kernel
theorem dX3_isAnyCalledOn_3 : decode cX3_isAnyCalledOn 3 = .ok (.bipush 8, 2) := by decide +kernel
theorem dX3_isAnyCalledOn_5 : decode cX3_isAnyCalledOn 5 = .ok (.if_icmp .ge 27, 3) := by decide +kernel
theorem dX3_isAnyCalledOn_8 : decode cX3_isAnyCalledOn 8 = .ok (.iload_n 2, 1) := by decide +kernel
theorem dX3_isAnyCalledOn_9 : decode cX3_isAnyCalledOn 9 = .ok (.invokestatic 243, 3) := by decide +kernel
theorem dX3_isAnyCalledOn_12 : decode cX3_isAnyCalledOn 12 = .ok (.iload_n 1, 1) := by decide +kernel
theorem dX3_isAnyCalledOn_13 : decode cX3_isAnyCalledOn 13 = .ok (.if_icmp .ne 13, 3) := by decide +kernel
theorem dX3_isAnyCalledOn_16 : decode cX3_isAnyCalledOn 16 = .ok (.aload_n 0, 1) := by decide +kernel
theorem dX3_isAnyCalledOn_17 : decode cX3_isAnyCalledOn 17 = .ok (.iload_n 2, 1) := by decide +kernel
theorem dX3_isAnyCalledOn_18 : decode cX3_isAnyCalledOn 18 = .ok (.invokevirtual 121, 3) := by decide +kernel
theorem dX3_isAnyCalledOn_21 : decode cX3_isAnyCalledOn 21 = .ok (.ifCond .eq 5, 3) := by decide +kernel
theorem dX3_isAnyCalledOn_24 : decode cX3_isAnyCalledOn 24 = .ok (.iconst 1, 1) := by decide +kernel
theorem dX3_isAnyCalledOn_25 : decode cX3_isAnyCalledOn 25 = .ok (.ireturn, 1) := by decide +kernel
theorem dX3_isAnyCalledOn_26 : decode cX3_isAnyCalledOn 26 = .ok (.iinc 2 1, 3) := by decide +kernel
theorem dX3_isAnyCalledOn_29 : decode cX3_isAnyCalledOn 29 = .ok (.goto (-27), 3) := by decide +kernel
theorem dX3_isAnyCalledOn_32 : decode cX3_isAnyCalledOn 32 = .ok (.iconst 0, 1) := by decide +kernel
theorem dX3_isAnyCalledOn_33 : decode cX3_isAnyCalledOn 33 = .ok (.ireturn, 1) := by decide +kernel
theorem dX3_isCalled_0 : decode cX3_isCalled 0 = .ok (.aload_n 0, 1) := by decide +kernel
theorem dX3_isCalled_1 : decode cX3_isCalled 1 = .ok (.getfield 11, 3) := by decide +kernel
theorem dX3_isCalled_4 : decode cX3_isCalled 4 = .ok (.iload_n 1, 1) := by decide +kernel
theorem dX3_isCalled_5 : decode cX3_isCalled 5 = .ok (.aaload, 1) := by decide +kernel
theorem dX3_isCalled_6 : decode cX3_isCalled 6 = .ok (.invokevirtual 246, 3) := by decide +kernel
theorem dX3_isCalled_9 : decode cX3_isCalled 9 = .ok (.ifCond .eq 15, 3) := by decide +kernel
theorem dX3_isCalled_12 : decode cX3_isCalled 12 = .ok (.aload_n 0, 1) := by decide +kernel
theorem dX3_isCalled_13 : decode cX3_isCalled 13 = .ok (.iload_n 1, 1) := by decide +kernel
theorem dX3_isCalled_14 : decode cX3_isCalled 14 = .ok (.invokevirtual 77, 3) := by decide +kernel
theorem dX3_isCalled_17 : decode cX3_isCalled 17 = .ok (.ifCond .ne 7, 3) := by decide +kernel
theorem dX3_isCalled_20 : decode cX3_isCalled 20 = .ok (.iconst 1, 1) := by decide +kernel
theorem dX3_isCalled_21 : decode cX3_isCalled 21 = .ok (.goto 4, 3) := by decide +kernel
theorem dX3_isCalled_24 : decode cX3_isCalled 24 = .ok (.iconst 0, 1) := by decide +kernel
theorem dX3_isCalled_25 : decode cX3_isCalled 25 = .ok (.ireturn, 1) := by decide +kernel
theorem dX3_isGreen_0 : decode cX3_isGreen 0 = .ok (.aload_n 0, 1) := by decide +kernel
theorem dX3_isGreen_1 : decode cX3_isGreen 1 = .ok (.getfield 18, 3) := by decide +kernel
theorem dX3_isGreen_4 : decode cX3_isGreen 4 = .ok (.iload_n 1, 1) := by decide +kernel
theorem dX3_isGreen_5 : decode cX3_isGreen 5 = .ok (.invokestatic 115, 3) := by decide +kernel
theorem dX3_isGreen_8 : decode cX3_isGreen 8 = .ok (.aaload, 1) := by decide +kernel
theorem dX3_isGreen_9 : decode cX3_isGreen 9 = .ok (.astore_n 2, 1) := by decide +kernel
theorem dX3_isGreen_10 : decode cX3_isGreen 10 = .ok (.aload_n 2, 1) := by decide +kernel
theorem dX3_isGreen_11 : decode cX3_isGreen 11 = .ok (.getfield 137, 3) := by decide +kernel
theorem dX3_isGreen_14 : decode cX3_isGreen 14 = .ok (.iload_n 1, 1) := by decide +kernel
theorem dX3_isGreen_15 : decode cX3_isGreen 15 = .ok (.if_icmp .ne 15, 3) := by decide +kernel
theorem dX3_isGreen_18 : decode cX3_isGreen 18 = .ok (.aload_n 2, 1) := by decide +kernel
theorem dX3_isGreen_19 : decode cX3_isGreen 19 = .ok (.getfield 140, 3) := by decide +kernel
theorem dX3_isGreen_22 : decode cX3_isGreen 22 = .ok (.iconst 1, 1) := by decide +kernel
theorem dX3_isGreen_23 : decode cX3_isGreen 23 = .ok (.if_icmp .ne 7, 3) := by decide +kernel
theorem dX3_isGreen_26 : decode cX3_isGreen 26 = .ok (.iconst 1, 1) := by decide +kernel
theorem dX3_isGreen_27 : decode cX3_isGreen 27 = .ok (.goto 4, 3) := by decide +kernel
theorem dX3_isGreen_30 : decode cX3_isGreen 30 = .ok (.iconst 0, 1) := by decide +kernel
theorem dX3_isGreen_31 : decode cX3_isGreen 31 = .ok (.ireturn, 1) := by decide +kernel
theorem dX3_mayEnd_0 : decode cX3_mayEnd 0 = .ok (.aload_n 1, 1) := by decide +kernel
theorem dX3_mayEnd_1 : decode cX3_mayEnd 1 = .ok (.getfield 140, 3) := by decide +kernel
theorem dX3_mayEnd_4 : decode cX3_mayEnd 4 = .ok (.iconst 1, 1) := by decide +kernel
theorem dX3_mayEnd_5 : decode cX3_mayEnd 5 = .ok (.if_icmp .ne 26, 3) := by decide +kernel
theorem dX3_mayEnd_8 : decode cX3_mayEnd 8 = .ok (.aload_n 1, 1) := by decide +kernel
theorem dX3_mayEnd_9 : decode cX3_mayEnd 9 = .ok (.aload_n 0, 1) := by decide +kernel
theorem dX3_mayEnd_10 : decode cX3_mayEnd 10 = .ok (.getfield 11, 3) := by decide +kernel
theorem dX3_mayEnd_13 : decode cX3_mayEnd 13 = .ok (.aload_n 1, 1) := by decide +kernel
theorem dX3_mayEnd_14 : decode cX3_mayEnd 14 = .ok (.getfield 137, 3) := by decide +kernel
theorem dX3_mayEnd_17 : decode cX3_mayEnd 17 = .ok (.aaload, 1) := by decide +kernel
theorem dX3_mayEnd_18 : decode cX3_mayEnd 18 = .ok (.getfield 46, 3) := by decide +kernel
theorem dX3_mayEnd_21 : decode cX3_mayEnd 21 = .ok (.invokevirtual 249, 3) := by decide +kernel
theorem dX3_mayEnd_24 : decode cX3_mayEnd 24 = .ok (.ifCond .eq 7, 3) := by decide +kernel
theorem dX3_mayEnd_27 : decode cX3_mayEnd 27 = .ok (.iconst 1, 1) := by decide +kernel
theorem dX3_mayEnd_28 : decode cX3_mayEnd 28 = .ok (.goto 4, 3) := by decide +kernel
theorem dX3_mayEnd_31 : decode cX3_mayEnd 31 = .ok (.iconst 0, 1) := by decide +kernel
theorem dX3_mayEnd_32 : decode cX3_mayEnd 32 = .ok (.ireturn, 1) := by decide +kernel
theorem dX3_isReady_0 : decode cX3_isReady 0 = .ok (.aload_n 0, 1) := by decide +kernel
theorem dX3_isReady_1 : decode cX3_isReady 1 = .ok (.aload_n 1, 1) := by decide +kernel
theorem dX3_isReady_2 : decode cX3_isReady 2 = .ok (.invokevirtual 152, 3) := by decide +kernel
theorem dX3_isReady_5 : decode cX3_isReady 5 = .ok (.ifCond .ne 10, 3) := by decide +kernel
theorem dX3_isReady_8 : decode cX3_isReady 8 = .ok (.aload_n 1, 1) := by decide +kernel
theorem dX3_isReady_9 : decode cX3_isReady 9 = .ok (.invokestatic 212, 3) := by decide +kernel
theorem dX3_isReady_12 : decode cX3_isReady 12 = .ok (.ifCond .eq 7, 3) := by decide +kernel
theorem dX3_isReady_15 : decode cX3_isReady 15 = .ok (.iconst 1, 1) := by decide +kernel
theorem dX3_isReady_16 : decode cX3_isReady 16 = .ok (.goto 4, 3) := by decide +kernel
theorem dX3_isReady_19 : decode cX3_isReady 19 = .ok (.iconst 0, 1) := by decide +kernel
theorem dX3_isReady_20 : decode cX3_isReady 20 = .ok (.ireturn, 1) := by decide +kernel
theorem dX3_isFlashing_0 : decode cX3_isFlashing 0 = .ok (.aload_n 0, 1) := by decide +kernel
theorem dX3_isFlashing_1 : decode cX3_isFlashing 1 = .ok (.getfield 28, 3) := by decide +kernel
theorem dX3_isFlashing_4 : decode cX3_isFlashing 4 = .ok (.getfield 159, 3) := by decide +kernel
theorem dX3_isFlashing_7 : decode cX3_isFlashing 7 = .ok (.ifCond .eq 7, 3) := by decide +kernel
theorem dX3_isFlashing_10 : decode cX3_isFlashing 10 = .ok (.iconst 1, 1) := by decide +kernel
theorem dX3_isFlashing_11 : decode cX3_isFlashing 11 = .ok (.goto 4, 3) := by decide +kernel
theorem dX3_isFlashing_14 : decode cX3_isFlashing 14 = .ok (.iconst 0, 1) := by decide +kernel
theorem dX3_isFlashing_15 : decode cX3_isFlashing 15 = .ok (.ireturn, 1) := by decide +kernel
theorem dX3_toldLight_0 : decode cX3_toldLight 0 = .ok (.aload_n 0, 1) := by decide +kernel
theorem dX3_toldLight_1 : decode cX3_toldLight 1 = .ok (.getfield 18, 3) := by decide +kernel
theorem dX3_toldLight_4 : decode cX3_toldLight 4 = .ok (.iload_n 1, 1) := by decide +kernel
theorem dX3_toldLight_5 : decode cX3_toldLight 5 = .ok (.invokestatic 115, 3) := by decide +kernel
theorem dX3_toldLight_8 : decode cX3_toldLight 8 = .ok (.aaload, 1) := by decide +kernel
theorem dX3_toldLight_9 : decode cX3_toldLight 9 = .ok (.astore_n 2, 1) := by decide +kernel
theorem dX3_toldLight_10 : decode cX3_toldLight 10 = .ok (.aload_n 2, 1) := by decide +kernel
theorem dX3_toldLight_11 : decode cX3_toldLight 11 = .ok (.getfield 137, 3) := by decide +kernel
theorem dX3_toldLight_14 : decode cX3_toldLight 14 = .ok (.iload_n 1, 1) := by decide +kernel
theorem dX3_toldLight_15 : decode cX3_toldLight 15 = .ok (.if_icmp .eq 5, 3) := by decide +kernel
theorem dX3_toldLight_18 : decode cX3_toldLight 18 = .ok (.iconst 0, 1) := by decide +kernel
theorem dX3_toldLight_19 : decode cX3_toldLight 19 = .ok (.ireturn, 1) := by decide +kernel
theorem dX3_toldLight_20 : decode cX3_toldLight 20 = .ok (.aload_n 2, 1) := by decide +kernel
theorem dX3_toldLight_21 : decode cX3_toldLight 21 = .ok (.getfield 140, 3) := by decide +kernel
theorem dX3_toldLight_24 : decode cX3_toldLight 24 = .ok (.iconst 1, 1) := by decide +kernel
theorem dX3_toldLight_25 : decode cX3_toldLight 25 = .ok (.if_icmp .ne 5, 3) := by decide +kernel
theorem dX3_toldLight_28 : decode cX3_toldLight 28 = .ok (.iconst 2, 1) := by decide +kernel
theorem dX3_toldLight_29 : decode cX3_toldLight 29 = .ok (.ireturn, 1) := by decide +kernel
theorem dX3_toldLight_30 : decode cX3_toldLight 30 = .ok (.aload_n 2, 1) := by decide +kernel
theorem dX3_toldLight_31 : decode cX3_toldLight 31 = .ok (.getfield 140, 3) := by decide +kernel
theorem dX3_toldLight_34 : decode cX3_toldLight 34 = .ok (.iconst 2, 1) := by decide +kernel
theorem dX3_toldLight_35 : decode cX3_toldLight 35 = .ok (.if_icmp .ne 7, 3) := by decide +kernel
theorem dX3_toldLight_38 : decode cX3_toldLight 38 = .ok (.iconst 1, 1) := by decide +kernel
theorem dX3_toldLight_39 : decode cX3_toldLight 39 = .ok (.goto 4, 3) := by decide +kernel
theorem dX3_toldLight_42 : decode cX3_toldLight 42 = .ok (.iconst 0, 1) := by decide +kernel
theorem dX3_toldLight_43 : decode cX3_toldLight 43 = .ok (.ireturn, 1) := by decide +kernel
theorem dX3_shownLight_0 : decode cX3_shownLight 0 = .ok (.aload_n 0, 1) := by decide +kernel
theorem dX3_shownLight_1 : decode cX3_shownLight 1 = .ok (.getfield 11, 3) := by decide +kernel
theorem dX3_shownLight_4 : decode cX3_shownLight 4 = .ok (.iload_n 1, 1) := by decide +kernel
theorem dX3_shownLight_5 : decode cX3_shownLight 5 = .ok (.aaload, 1) := by decide +kernel
theorem dX3_shownLight_6 : decode cX3_shownLight 6 = .ok (.getfield 86, 3) := by decide +kernel
theorem dX3_shownLight_9 : decode cX3_shownLight 9 = .ok (.istore_n 2, 1) := by decide +kernel
theorem dX3_shownLight_10 : decode cX3_shownLight 10 = .ok (.iload_n 2, 1) := by decide +kernel
theorem dX3_shownLight_11 : decode cX3_shownLight 11 = .ok (.iconst (-1), 1) := by decide +kernel
theorem dX3_shownLight_12 : decode cX3_shownLight 12 = .ok (.if_icmp .eq 7, 3) := by decide +kernel
theorem dX3_shownLight_15 : decode cX3_shownLight 15 = .ok (.iload_n 2, 1) := by decide +kernel
theorem dX3_shownLight_16 : decode cX3_shownLight 16 = .ok (.goto 8, 3) := by decide +kernel
theorem dX3_shownLight_19 : decode cX3_shownLight 19 = .ok (.aload_n 0, 1) := by decide +kernel
theorem dX3_shownLight_20 : decode cX3_shownLight 20 = .ok (.iload_n 1, 1) := by decide +kernel
theorem dX3_shownLight_21 : decode cX3_shownLight 21 = .ok (.invokevirtual 165, 3) := by decide +kernel
theorem dX3_shownLight_24 : decode cX3_shownLight 24 = .ok (.ireturn, 1) := by decide +kernel
theorem dX3_isIdle_0 : decode cX3_isIdle 0 = .ok (.aload_n 0, 1) := by decide +kernel
theorem dX3_isIdle_1 : decode cX3_isIdle 1 = .ok (.getfield 140, 3) := by decide +kernel
theorem dX3_isIdle_4 : decode cX3_isIdle 4 = .ok (.ifCond .ne 15, 3) := by decide +kernel
theorem dX3_isIdle_7 : decode cX3_isIdle 7 = .ok (.aload_n 0, 1) := by decide +kernel
theorem dX3_isIdle_8 : decode cX3_isIdle 8 = .ok (.getfield 100, 3) := by decide +kernel
theorem dX3_isIdle_11 : decode cX3_isIdle 11 = .ok (.iconst (-1), 1) := by decide +kernel
theorem dX3_isIdle_12 : decode cX3_isIdle 12 = .ok (.if_icmp .ne 7, 3) := by decide +kernel
theorem dX3_isIdle_15 : decode cX3_isIdle 15 = .ok (.iconst 1, 1) := by decide +kernel
theorem dX3_isIdle_16 : decode cX3_isIdle 16 = .ok (.goto 4, 3) := by decide +kernel
theorem dX3_isIdle_19 : decode cX3_isIdle 19 = .ok (.iconst 0, 1) := by decide +kernel
theorem dX3_isIdle_20 : decode cX3_isIdle 20 = .ok (.ireturn, 1) := by decide +kernel
theorem dX3_isMovement_0 : decode cX3_isMovement 0 = .ok (.iload_n 0, 1) := by decide +kernel
theorem dX3_isMovement_1 : decode cX3_isMovement 1 = .ok (.ifCond .lt 13, 3) := by decide +kernel
theorem dX3_isMovement_4 : decode cX3_isMovement 4 = .ok (.iload_n 0, 1) := by decide +kernel
theorem dX3_isMovement_5 : decode cX3_isMovement 5 = .ok (.bipush 8, 2) := by decide +kernel
theorem dX3_isMovement_7 : decode cX3_isMovement 7 = .ok (.if_icmp .ge 7, 3) := by decide +kernel
theorem dX3_isMovement_10 : decode cX3_isMovement 10 = .ok (.iconst 1, 1) := by decide +kernel
theorem dX3_isMovement_11 : decode cX3_isMovement 11 = .ok (.goto 4, 3) := by decide +kernel
theorem dX3_isMovement_14 : decode cX3_isMovement 14 = .ok (.iconst 0, 1) := by decide +kernel
theorem dX3_isMovement_15 : decode cX3_isMovement 15 = .ok (.ireturn, 1) := by decide +kernel
theorem dX3_isRing_0 : decode cX3_isRing 0 = .ok (.iload_n 0, 1) := by decide +kernel
theorem dX3_isRing_1 : decode cX3_isRing 1 = .ok (.ifCond .lt 12, 3) := by decide +kernel
theorem dX3_isRing_4 : decode cX3_isRing 4 = .ok (.iload_n 0, 1) := by decide +kernel
theorem dX3_isRing_5 : decode cX3_isRing 5 = .ok (.iconst 2, 1) := by decide +kernel
theorem dX3_isRing_6 : decode cX3_isRing 6 = .ok (.if_icmp .ge 7, 3) := by decide +kernel
theorem dX3_isRing_9 : decode cX3_isRing 9 = .ok (.iconst 1, 1) := by decide +kernel
theorem dX3_isRing_10 : decode cX3_isRing 10 = .ok (.goto 4, 3) := by decide +kernel
theorem dX3_isRing_13 : decode cX3_isRing 13 = .ok (.iconst 0, 1) := by decide +kernel
theorem dX3_isRing_14 : decode cX3_isRing 14 = .ok (.ireturn, 1) := by decide +kernel
theorem dX3_number_0 : decode cX3_number 0 = .ok (.iload_n 0, 1) := by decide +kernel
theorem dX3_number_1 : decode cX3_number 1 = .ok (.ifCond .eq 7, 3) := by decide +kernel
theorem dX3_number_4 : decode cX3_number 4 = .ok (.iconst 1, 1) := by decide +kernel
theorem dX3_number_5 : decode cX3_number 5 = .ok (.goto 4, 3) := by decide +kernel
theorem dX3_number_8 : decode cX3_number 8 = .ok (.iconst 0, 1) := by decide +kernel
theorem dX3_number_9 : decode cX3_number 9 = .ok (.ireturn, 1) := by decide +kernel
theorem dX3_ringOf_0 : decode cX3_ringOf 0 = .ok (.iload_n 0, 1) := by decide +kernel
theorem dX3_ringOf_1 : decode cX3_ringOf 1 = .ok (.iconst 4, 1) := by decide +kernel
theorem dX3_ringOf_2 : decode cX3_ringOf 2 = .ok (.idiv, 1) := by decide +kernel
theorem dX3_ringOf_3 : decode cX3_ringOf 3 = .ok (.ireturn, 1) := by decide +kernel
theorem dX3_sideOf_0 : decode cX3_sideOf 0 = .ok (.iload_n 0, 1) := by decide +kernel
theorem dX3_sideOf_1 : decode cX3_sideOf 1 = .ok (.iconst 4, 1) := by decide +kernel
theorem dX3_sideOf_2 : decode cX3_sideOf 2 = .ok (.irem, 1) := by decide +kernel
theorem dX3_sideOf_3 : decode cX3_sideOf 3 = .ok (.iconst 2, 1) := by decide +kernel
theorem dX3_sideOf_4 : decode cX3_sideOf 4 = .ok (.idiv, 1) := by decide +kernel
theorem dX3_sideOf_5 : decode cX3_sideOf 5 = .ok (.ireturn, 1) := by decide +kernel
theorem dX3_areInWay_0 : decode cX3_areInWay 0 = .ok (.iload_n 0, 1) := by decide +kernel
theorem dX3_areInWay_1 : decode cX3_areInWay 1 = .ok (.iload_n 1, 1) := by decide +kernel
theorem dX3_areInWay_2 : decode cX3_areInWay 2 = .ok (.if_icmp .eq 14, 3) := by decide +kernel
theorem dX3_areInWay_5 : decode cX3_areInWay 5 = .ok (.iload_n 0, 1) := by decide +kernel
theorem dX3_areInWay_6 : decode cX3_areInWay 6 = .ok (.invokestatic 115, 3) := by decide +kernel
theorem dX3_areInWay_9 : decode cX3_areInWay 9 = .ok (.iload_n 1, 1) := by decide +kernel
theorem dX3_areInWay_10 : decode cX3_areInWay 10 = .ok (.invokestatic 115, 3) := by decide +kernel
theorem dX3_areInWay_13 : decode cX3_areInWay 13 = .ok (.if_icmp .eq 14, 3) := by decide +kernel
theorem dX3_areInWay_16 : decode cX3_areInWay 16 = .ok (.iload_n 0, 1) := by decide +kernel
theorem dX3_areInWay_17 : decode cX3_areInWay 17 = .ok (.invokestatic 243, 3) := by decide +kernel
theorem dX3_areInWay_20 : decode cX3_areInWay 20 = .ok (.iload_n 1, 1) := by decide +kernel
theorem dX3_areInWay_21 : decode cX3_areInWay 21 = .ok (.invokestatic 243, 3) := by decide +kernel
theorem dX3_areInWay_24 : decode cX3_areInWay 24 = .ok (.if_icmp .eq 7, 3) := by decide +kernel
theorem dX3_areInWay_27 : decode cX3_areInWay 27 = .ok (.iconst 1, 1) := by decide +kernel
theorem dX3_areInWay_28 : decode cX3_areInWay 28 = .ok (.goto 4, 3) := by decide +kernel
theorem dX3_areInWay_31 : decode cX3_areInWay 31 = .ok (.iconst 0, 1) := by decide +kernel
theorem dX3_areInWay_32 : decode cX3_areInWay 32 = .ok (.ireturn, 1) := by decide +kernel
theorem dX3_anyInTheWay_0 : decode cX3_anyInTheWay 0 = .ok (.iconst 0, 1) := by decide +kernel
theorem dX3_anyInTheWay_1 : decode cX3_anyInTheWay 1 = .ok (.istore_n 1, 1) := by decide +kernel
theorem dX3_anyInTheWay_2 : decode cX3_anyInTheWay 2 = .ok (.iload_n 1, 1) := by decide +kernel
theorem dX3_anyInTheWay_3 : decode cX3_anyInTheWay 3 = .ok (.bipush 8, 2) := by decide +kernel
theorem dX3_anyInTheWay_5 : decode cX3_anyInTheWay 5 = .ok (.if_icmp .ge 47, 3) := by decide +kernel
theorem dX3_anyInTheWay_8 : decode cX3_anyInTheWay 8 = .ok (.iload_n 1, 1) := by decide +kernel
theorem dX3_anyInTheWay_9 : decode cX3_anyInTheWay 9 = .ok (.iconst 1, 1) := by decide +kernel
theorem dX3_anyInTheWay_10 : decode cX3_anyInTheWay 10 = .ok (.iadd, 1) := by decide +kernel
theorem dX3_anyInTheWay_11 : decode cX3_anyInTheWay 11 = .ok (.istore_n 2, 1) := by decide +kernel
theorem dX3_anyInTheWay_12 : decode cX3_anyInTheWay 12 = .ok (.iload_n 2, 1) := by decide +kernel
theorem dX3_anyInTheWay_13 : decode cX3_anyInTheWay 13 = .ok (.bipush 8, 2) := by decide +kernel
theorem dX3_anyInTheWay_15 : decode cX3_anyInTheWay 15 = .ok (.if_icmp .ge 31, 3) := by decide +kernel
theorem dX3_anyInTheWay_18 : decode cX3_anyInTheWay 18 = .ok (.aload_n 0, 1) := by decide +kernel
theorem dX3_anyInTheWay_19 : decode cX3_anyInTheWay 19 = .ok (.iload_n 1, 1) := by decide +kernel
theorem dX3_anyInTheWay_20 : decode cX3_anyInTheWay 20 = .ok (.iaload, 1) := by decide +kernel
theorem dX3_anyInTheWay_21 : decode cX3_anyInTheWay 21 = .ok (.ifCond .eq 19, 3) := by decide +kernel
theorem dX3_anyInTheWay_24 : decode cX3_anyInTheWay 24 = .ok (.aload_n 0, 1) := by decide +kernel
theorem dX3_anyInTheWay_25 : decode cX3_anyInTheWay 25 = .ok (.iload_n 2, 1) := by decide +kernel
theorem dX3_anyInTheWay_26 : decode cX3_anyInTheWay 26 = .ok (.iaload, 1) := by decide +kernel
theorem dX3_anyInTheWay_27 : decode cX3_anyInTheWay 27 = .ok (.ifCond .eq 13, 3) := by decide +kernel
theorem dX3_anyInTheWay_30 : decode cX3_anyInTheWay 30 = .ok (.iload_n 1, 1) := by decide +kernel
theorem dX3_anyInTheWay_31 : decode cX3_anyInTheWay 31 = .ok (.iload_n 2, 1) := by decide +kernel
theorem dX3_anyInTheWay_32 : decode cX3_anyInTheWay 32 = .ok (.invokestatic 252, 3) := by decide +kernel
theorem dX3_anyInTheWay_35 : decode cX3_anyInTheWay 35 = .ok (.ifCond .eq 5, 3) := by decide +kernel
theorem dX3_anyInTheWay_38 : decode cX3_anyInTheWay 38 = .ok (.iconst 1, 1) := by decide +kernel
theorem dX3_anyInTheWay_39 : decode cX3_anyInTheWay 39 = .ok (.ireturn, 1) := by decide +kernel
theorem dX3_anyInTheWay_40 : decode cX3_anyInTheWay 40 = .ok (.iinc 2 1, 3) := by decide +kernel
theorem dX3_anyInTheWay_43 : decode cX3_anyInTheWay 43 = .ok (.goto (-31), 3) := by decide +kernel
theorem dX3_anyInTheWay_46 : decode cX3_anyInTheWay 46 = .ok (.iinc 1 1, 3) := by decide +kernel
theorem dX3_anyInTheWay_49 : decode cX3_anyInTheWay 49 = .ok (.goto (-47), 3) := by decide +kernel
theorem dX3_anyInTheWay_52 : decode cX3_anyInTheWay 52 = .ok (.iconst 0, 1) := by decide +kernel
theorem dX3_anyInTheWay_53 : decode cX3_anyInTheWay 53 = .ok (.ireturn, 1) := by decide +kernel
end
section
theorem dX4_init_0 : decode cX4_init 0 = .ok (.aload_n 0, 1) := by decide +kernel
theorem dX4_init_1 : decode cX4_init 1 = .ok (.invokespecial 1, 3) := by decide +kernel
theorem dX4_init_4 : decode cX4_init 4 = .ok (.aload_n 0, 1) := by decide +kernel
theorem dX4_init_5 : decode cX4_init 5 = .ok (.bipush 56, 2) := by decide +kernel
theorem dX4_init_7 : decode cX4_init 7 = .ok (.newarray .int, 2) := by decide +kernel
theorem dX4_init_9 : decode cX4_init 9 = .ok (.putfield 7, 3) := by decide +kernel
theorem dX4_init_12 : decode cX4_init 12 = .ok (.aload_n 0, 1) := by decide +kernel
theorem dX4_init_13 : decode cX4_init 13 = .ok (.bipush 8, 2) := by decide +kernel
theorem dX4_init_15 : decode cX4_init 15 = .ok (.newarray .int, 2) := by decide +kernel
theorem dX4_init_17 : decode cX4_init 17 = .ok (.putfield 13, 3) := by decide +kernel
theorem dX4_init_20 : decode cX4_init 20 = .ok (.aload_n 0, 1) := by decide +kernel
theorem dX4_init_21 : decode cX4_init 21 = .ok (.bipush 8, 2) := by decide +kernel
theorem dX4_init_23 : decode cX4_init 23 = .ok (.newarray .boolean, 2) := by decide +kernel
theorem dX4_init_25 : decode cX4_init 25 = .ok (.putfield 16, 3) := by decide +kernel
theorem dX4_init_28 : decode cX4_init 28 = .ok (.aload_n 0, 1) := by decide +kernel
theorem dX4_init_29 : decode cX4_init 29 = .ok (.bipush 8, 2) := by decide +kernel
theorem dX4_init_31 : decode cX4_init 31 = .ok (.newarray .boolean, 2) := by decide +kernel
theorem dX4_init_33 : decode cX4_init 33 = .ok (.putfield 20, 3) := by decide +kernel
theorem dX4_init_36 : decode cX4_init 36 = .ok (.aload_n 0, 1) := by decide +kernel
theorem dX4_init_37 : decode cX4_init 37 = .ok (.bipush 8, 2) := by decide +kernel
theorem dX4_init_39 : decode cX4_init 39 = .ok (.newarray .boolean, 2) := by decide +kernel
theorem dX4_init_41 : decode cX4_init 41 = .ok (.putfield 23, 3) := by decide +kernel
theorem dX4_init_44 : decode cX4_init 44 = .ok (.aload_n 0, 1) := by decide +kernel
theorem dX4_init_45 : decode cX4_init 45 = .ok (.bipush 8, 2) := by decide +kernel
theorem dX4_init_47 : decode cX4_init 47 = .ok (.newarray .int, 2) := by decide +kernel
theorem dX4_init_49 : decode cX4_init 49 = .ok (.putfield 26, 3) := by decide +kernel
theorem dX4_init_52 : decode cX4_init 52 = .ok (.aload_n 0, 1) := by decide +kernel
theorem dX4_init_53 : decode cX4_init 53 = .ok (.bipush 8, 2) := by decide +kernel
theorem dX4_init_55 : decode cX4_init 55 = .ok (.newarray .int, 2) := by decide +kernel
theorem dX4_init_57 : decode cX4_init 57 = .ok (.putfield 29, 3) := by decide +kernel
theorem dX4_init_60 : decode cX4_init 60 = .ok (.aload_n 0, 1) := by decide +kernel
theorem dX4_init_61 : decode cX4_init 61 = .ok (.bipush 8, 2) := by decide +kernel
theorem dX4_init_63 : decode cX4_init 63 = .ok (.newarray .int, 2) := by decide +kernel
theorem dX4_init_65 : decode cX4_init 65 = .ok (.putfield 32, 3) := by decide +kernel
theorem dX4_init_68 : decode cX4_init 68 = .ok (.aload_n 0, 1) := by decide +kernel
theorem dX4_init_69 : decode cX4_init 69 = .ok (.bipush 8, 2) := by decide +kernel
theorem dX4_init_71 : decode cX4_init 71 = .ok (.newarray .int, 2) := by decide +kernel
theorem dX4_init_73 : decode cX4_init 73 = .ok (.putfield 35, 3) := by decide +kernel
theorem dX4_init_76 : decode cX4_init 76 = .ok (.aload_n 0, 1) := by decide +kernel
theorem dX4_init_77 : decode cX4_init 77 = .ok (.iconst 4, 1) := by decide +kernel
theorem dX4_init_78 : decode cX4_init 78 = .ok (.newarray .boolean, 2) := by decide +kernel
theorem dX4_init_80 : decode cX4_init 80 = .ok (.putfield 38, 3) := by decide +kernel
theorem dX4_init_83 : decode cX4_init 83 = .ok (.aload_n 0, 1) := by decide +kernel
theorem dX4_init_84 : decode cX4_init 84 = .ok (.iconst 2, 1) := by decide +kernel
theorem dX4_init_85 : decode cX4_init 85 = .ok (.newarray .int, 2) := by decide +kernel
theorem dX4_init_87 : decode cX4_init 87 = .ok (.putfield 41, 3) := by decide +kernel
theorem dX4_init_90 : decode cX4_init 90 = .ok (.aload_n 0, 1) := by decide +kernel
theorem dX4_init_91 : decode cX4_init 91 = .ok (.iconst 2, 1) := by decide +kernel
theorem dX4_init_92 : decode cX4_init 92 = .ok (.newarray .int, 2) := by decide +kernel
theorem dX4_init_94 : decode cX4_init 94 = .ok (.putfield 44, 3) := by decide +kernel
theorem dX4_init_97 : decode cX4_init 97 = .ok (.aload_n 0, 1) := by decide +kernel
theorem dX4_init_98 : decode cX4_init 98 = .ok (.iconst 2, 1) := by decide +kernel
theorem dX4_init_99 : decode cX4_init 99 = .ok (.newarray .int, 2) := by decide +kernel
theorem dX4_init_101 : decode cX4_init 101 = .ok (.putfield 47, 3) := by decide +kernel
theorem dX4_init_104 : decode cX4_init 104 = .ok (.aload_n 0, 1) := by decide +kernel
theorem dX4_init_105 : decode cX4_init 105 = .ok (.iconst 2, 1) := by decide +kernel
theorem dX4_init_106 : decode cX4_init 106 = .ok (.newarray .int, 2) := by decide +kernel
theorem dX4_init_108 : decode cX4_init 108 = .ok (.putfield 50, 3) := by decide +kernel
theorem dX4_init_111 : decode cX4_init 111 = .ok (.aload_n 0, 1) := by decide +kernel
theorem dX4_init_112 : decode cX4_init 112 = .ok (.iconst 2, 1) := by decide +kernel
theorem dX4_init_113 : decode cX4_init 113 = .ok (.newarray .int, 2) := by decide +kernel
theorem dX4_init_115 : decode cX4_init 115 = .ok (.putfield 53, 3) := by decide +kernel
theorem dX4_init_118 : decode cX4_init 118 = .ok (.aload_n 0, 1) := by decide +kernel
theorem dX4_init_119 : decode cX4_init 119 = .ok (.iconst 2, 1) := by decide +kernel
theorem dX4_init_120 : decode cX4_init 120 = .ok (.newarray .int, 2) := by decide +kernel
theorem dX4_init_122 : decode cX4_init 122 = .ok (.putfield 56, 3) := by decide +kernel
theorem dX4_init_125 : decode cX4_init 125 = .ok (.aload_n 0, 1) := by decide +kernel
theorem dX4_init_126 : decode cX4_init 126 = .ok (.iconst 2, 1) := by decide +kernel
theorem dX4_init_127 : decode cX4_init 127 = .ok (.newarray .int, 2) := by decide +kernel
theorem dX4_init_129 : decode cX4_init 129 = .ok (.putfield 59, 3) := by decide +kernel
theorem dX4_init_132 : decode cX4_init 132 = .ok (.aload_n 0, 1) := by decide +kernel
theorem dX4_init_133 : decode cX4_init 133 = .ok (.iconst 2, 1) := by decide +kernel
theorem dX4_init_134 : decode cX4_init 134 = .ok (.newarray .int, 2) := by decide +kernel
theorem dX4_init_136 : decode cX4_init 136 = .ok (.putfield 62, 3) := by decide +kernel
theorem dX4_init_139 : decode cX4_init 139 = .ok (.aload_n 0, 1) := by decide +kernel
theorem dX4_init_140 : decode cX4_init 140 = .ok (.bipush 8, 2) := by decide +kernel
theorem dX4_init_142 : decode cX4_init 142 = .ok (.newarray .int, 2) := by decide +kernel
theorem dX4_init_144 : decode cX4_init 144 = .ok (.putfield 65, 3) := by decide +kernel
theorem dX4_init_147 : decode cX4_init 147 = .ok (.aload_n 0, 1) := by decide +kernel
theorem dX4_init_148 : decode cX4_init 148 = .ok (.bipush 8, 2) := by decide +kernel
theorem dX4_init_150 : decode cX4_init 150 = .ok (.newarray .int, 2) := by decide +kernel
theorem dX4_init_152 : decode cX4_init 152 = .ok (.putfield 68, 3) := by decide +kernel
theorem dX4_init_155 : decode cX4_init 155 = .ok (.iconst 0, 1) := by decide +kernel
theorem dX4_init_156 : decode cX4_init 156 = .ok (.istore_n 1, 1) := by decide +kernel
theorem dX4_init_157 : decode cX4_init 157 = .ok (.iload_n 1, 1) := by decide +kernel
theorem dX4_init_158 : decode cX4_init 158 = .ok (.bipush 8, 2) := by decide +kernel
theorem dX4_init_160 : decode cX4_init 160 = .ok (.if_icmp .ge 89, 3) := by decide +kernel
theorem dX4_init_163 : decode cX4_init 163 = .ok (.aload_n 0, 1) := by decide +kernel
theorem dX4_init_164 : decode cX4_init 164 = .ok (.getfield 13, 3) := by decide +kernel
theorem dX4_init_167 : decode cX4_init 167 = .ok (.iload_n 1, 1) := by decide +kernel
theorem dX4_init_168 : decode cX4_init 168 = .ok (.iconst 3, 1) := by decide +kernel
theorem dX4_init_169 : decode cX4_init 169 = .ok (.iastore, 1) := by decide +kernel
theorem dX4_init_170 : decode cX4_init 170 = .ok (.aload_n 0, 1) := by decide +kernel
theorem dX4_init_171 : decode cX4_init 171 = .ok (.getfield 35, 3) := by decide +kernel
theorem dX4_init_174 : decode cX4_init 174 = .ok (.iload_n 1, 1) := by decide +kernel
theorem dX4_init_175 : decode cX4_init 175 = .ok (.iconst (-1), 1) := by decide +kernel
theorem dX4_init_176 : decode cX4_init 176 = .ok (.iastore, 1) := by decide +kernel
theorem dX4_init_177 : decode cX4_init 177 = .ok (.aload_n 0, 1) := by decide +kernel
theorem dX4_init_178 : decode cX4_init 178 = .ok (.getfield 65, 3) := by decide +kernel
theorem dX4_init_181 : decode cX4_init 181 = .ok (.iload_n 1, 1) := by decide +kernel
theorem dX4_init_182 : decode cX4_init 182 = .ok (.iconst (-1), 1) := by decide +kernel
theorem dX4_init_183 : decode cX4_init 183 = .ok (.iastore, 1) := by decide +kernel
theorem dX4_init_184 : decode cX4_init 184 = .ok (.aload_n 0, 1) := by decide +kernel
theorem dX4_init_185 : decode cX4_init 185 = .ok (.getfield 7, 3) := by decide +kernel
theorem dX4_init_188 : decode cX4_init 188 = .ok (.bipush 7, 2) := by decide +kernel
theorem dX4_init_190 : decode cX4_init 190 = .ok (.iload_n 1, 1) := by decide +kernel
theorem dX4_init_191 : decode cX4_init 191 = .ok (.imul, 1) := by decide +kernel
theorem dX4_init_192 : decode cX4_init 192 = .ok (.iconst 5, 1) := by decide +kernel
theorem dX4_init_193 : decode cX4_init 193 = .ok (.iastore, 1) := by decide +kernel
theorem dX4_init_194 : decode cX4_init 194 = .ok (.aload_n 0, 1) := by decide +kernel
theorem dX4_init_195 : decode cX4_init 195 = .ok (.getfield 7, 3) := by decide +kernel
theorem dX4_init_198 : decode cX4_init 198 = .ok (.bipush 7, 2) := by decide +kernel
theorem dX4_init_200 : decode cX4_init 200 = .ok (.iload_n 1, 1) := by decide +kernel
theorem dX4_init_201 : decode cX4_init 201 = .ok (.imul, 1) := by decide +kernel
theorem dX4_init_202 : decode cX4_init 202 = .ok (.iconst 1, 1) := by decide +kernel
theorem dX4_init_203 : decode cX4_init 203 = .ok (.iadd, 1) := by decide +kernel
theorem dX4_init_204 : decode cX4_init 204 = .ok (.iconst 3, 1) := by decide +kernel
theorem dX4_init_205 : decode cX4_init 205 = .ok (.iastore, 1) := by decide +kernel
theorem dX4_init_206 : decode cX4_init 206 = .ok (.aload_n 0, 1) := by decide +kernel
theorem dX4_init_207 : decode cX4_init 207 = .ok (.getfield 7, 3) := by decide +kernel
theorem dX4_init_210 : decode cX4_init 210 = .ok (.bipush 7, 2) := by decide +kernel
theorem dX4_init_212 : decode cX4_init 212 = .ok (.iload_n 1, 1) := by decide +kernel
theorem dX4_init_213 : decode cX4_init 213 = .ok (.imul, 1) := by decide +kernel
theorem dX4_init_214 : decode cX4_init 214 = .ok (.iconst 2, 1) := by decide +kernel
theorem dX4_init_215 : decode cX4_init 215 = .ok (.iadd, 1) := by decide +kernel
theorem dX4_init_216 : decode cX4_init 216 = .ok (.bipush 30, 2) := by decide +kernel
theorem dX4_init_218 : decode cX4_init 218 = .ok (.iastore, 1) := by decide +kernel
theorem dX4_init_219 : decode cX4_init 219 = .ok (.aload_n 0, 1) := by decide +kernel
theorem dX4_init_220 : decode cX4_init 220 = .ok (.getfield 7, 3) := by decide +kernel
theorem dX4_init_223 : decode cX4_init 223 = .ok (.bipush 7, 2) := by decide +kernel
theorem dX4_init_225 : decode cX4_init 225 = .ok (.iload_n 1, 1) := by decide +kernel
theorem dX4_init_226 : decode cX4_init 226 = .ok (.imul, 1) := by decide +kernel
theorem dX4_init_227 : decode cX4_init 227 = .ok (.iconst 3, 1) := by decide +kernel
theorem dX4_init_228 : decode cX4_init 228 = .ok (.iadd, 1) := by decide +kernel
theorem dX4_init_229 : decode cX4_init 229 = .ok (.iconst 4, 1) := by decide +kernel
theorem dX4_init_230 : decode cX4_init 230 = .ok (.iastore, 1) := by decide +kernel
theorem dX4_init_231 : decode cX4_init 231 = .ok (.aload_n 0, 1) := by decide +kernel
theorem dX4_init_232 : decode cX4_init 232 = .ok (.getfield 7, 3) := by decide +kernel
theorem dX4_init_235 : decode cX4_init 235 = .ok (.bipush 7, 2) := by decide +kernel
theorem dX4_init_237 : decode cX4_init 237 = .ok (.iload_n 1, 1) := by decide +kernel
theorem dX4_init_238 : decode cX4_init 238 = .ok (.imul, 1) := by decide +kernel
theorem dX4_init_239 : decode cX4_init 239 = .ok (.iconst 4, 1) := by decide +kernel
theorem dX4_init_240 : decode cX4_init 240 = .ok (.iadd, 1) := by decide +kernel
theorem dX4_init_241 : decode cX4_init 241 = .ok (.iconst 2, 1) := by decide +kernel
theorem dX4_init_242 : decode cX4_init 242 = .ok (.iastore, 1) := by decide +kernel
theorem dX4_init_243 : decode cX4_init 243 = .ok (.iinc 1 1, 3) := by decide +kernel
theorem dX4_init_246 : decode cX4_init 246 = .ok (.goto (-89), 3) := by decide +kernel
theorem dX4_init_249 : decode cX4_init 249 = .ok (.aload_n 0, 1) := by decide +kernel
theorem dX4_init_250 : decode cX4_init 250 = .ok (.getfield 41, 3) := by decide +kernel
theorem dX4_init_253 : decode cX4_init 253 = .ok (.iconst 0, 1) := by decide +kernel
theorem dX4_init_254 : decode cX4_init 254 = .ok (.iconst (-1), 1) := by decide +kernel
theorem dX4_init_255 : decode cX4_init 255 = .ok (.iastore, 1) := by decide +kernel
theorem dX4_init_256 : decode cX4_init 256 = .ok (.aload_n 0, 1) := by decide +kernel
theorem dX4_init_257 : decode cX4_init 257 = .ok (.getfield 41, 3) := by decide +kernel
theorem dX4_init_260 : decode cX4_init 260 = .ok (.iconst 1, 1) := by decide +kernel
theorem dX4_init_261 : decode cX4_init 261 = .ok (.iconst (-1), 1) := by decide +kernel
theorem dX4_init_262 : decode cX4_init 262 = .ok (.iastore, 1) := by decide +kernel
theorem dX4_init_263 : decode cX4_init 263 = .ok (.aload_n 0, 1) := by decide +kernel
theorem dX4_init_264 : decode cX4_init 264 = .ok (.getfield 44, 3) := by decide +kernel
theorem dX4_init_267 : decode cX4_init 267 = .ok (.iconst 0, 1) := by decide +kernel
theorem dX4_init_268 : decode cX4_init 268 = .ok (.iconst (-1), 1) := by decide +kernel
theorem dX4_init_269 : decode cX4_init 269 = .ok (.iastore, 1) := by decide +kernel
theorem dX4_init_270 : decode cX4_init 270 = .ok (.aload_n 0, 1) := by decide +kernel
theorem dX4_init_271 : decode cX4_init 271 = .ok (.getfield 44, 3) := by decide +kernel
theorem dX4_init_274 : decode cX4_init 274 = .ok (.iconst 1, 1) := by decide +kernel
theorem dX4_init_275 : decode cX4_init 275 = .ok (.iconst (-1), 1) := by decide +kernel
theorem dX4_init_276 : decode cX4_init 276 = .ok (.iastore, 1) := by decide +kernel
theorem dX4_init_277 : decode cX4_init 277 = .ok (.return_, 1) := by decide +kernel
theorem dX4_isMovement_0 : decode cX4_isMovement 0 = .ok (.iload_n 0, 1) := by decide +kernel
theorem dX4_isMovement_1 : decode cX4_isMovement 1 = .ok (.ifCond .lt 13, 3) := by decide +kernel
theorem dX4_isMovement_4 : decode cX4_isMovement 4 = .ok (.iload_n 0, 1) := by decide +kernel
theorem dX4_isMovement_5 : decode cX4_isMovement 5 = .ok (.bipush 8, 2) := by decide +kernel
theorem dX4_isMovement_7 : decode cX4_isMovement 7 = .ok (.if_icmp .ge 7, 3) := by decide +kernel
theorem dX4_isMovement_10 : decode cX4_isMovement 10 = .ok (.iconst 1, 1) := by decide +kernel
theorem dX4_isMovement_11 : decode cX4_isMovement 11 = .ok (.goto 4, 3) := by decide +kernel
theorem dX4_isMovement_14 : decode cX4_isMovement 14 = .ok (.iconst 0, 1) := by decide +kernel
theorem dX4_isMovement_15 : decode cX4_isMovement 15 = .ok (.ireturn, 1) := by decide +kernel
theorem dX4_timeOf_0 : decode cX4_timeOf 0 = .ok (.aload_n 0, 1) := by decide +kernel
theorem dX4_timeOf_1 : decode cX4_timeOf 1 = .ok (.getfield 7, 3) := by decide +kernel
theorem dX4_timeOf_4 : decode cX4_timeOf 4 = .ok (.bipush 7, 2) := by decide +kernel
theorem dX4_timeOf_6 : decode cX4_timeOf 6 = .ok (.iload_n 1, 1) := by decide +kernel
theorem dX4_timeOf_7 : decode cX4_timeOf 7 = .ok (.imul, 1) := by decide +kernel
theorem dX4_timeOf_8 : decode cX4_timeOf 8 = .ok (.iload_n 2, 1) := by decide +kernel
theorem dX4_timeOf_9 : decode cX4_timeOf 9 = .ok (.iadd, 1) := by decide +kernel
theorem dX4_timeOf_10 : decode cX4_timeOf 10 = .ok (.iaload, 1) := by decide +kernel
theorem dX4_timeOf_11 : decode cX4_timeOf 11 = .ok (.ireturn, 1) := by decide +kernel
theorem dX4_has_0 : decode cX4_has 0 = .ok (.aload_n 0, 1) := by decide +kernel
theorem dX4_has_1 : decode cX4_has 1 = .ok (.getfield 13, 3) := by decide +kernel
theorem dX4_has_4 : decode cX4_has 4 = .ok (.iload_n 1, 1) := by decide +kernel
theorem dX4_has_5 : decode cX4_has 5 = .ok (.iaload, 1) := by decide +kernel
theorem dX4_has_6 : decode cX4_has 6 = .ok (.iload_n 2, 1) := by decide +kernel
theorem dX4_has_7 : decode cX4_has 7 = .ok (.iand, 1) := by decide +kernel
theorem dX4_has_8 : decode cX4_has 8 = .ok (.ifCond .eq 7, 3) := by decide +kernel
theorem dX4_has_11 : decode cX4_has 11 = .ok (.iconst 1, 1) := by decide +kernel
theorem dX4_has_12 : decode cX4_has 12 = .ok (.goto 4, 3) := by decide +kernel
theorem dX4_has_15 : decode cX4_has 15 = .ok (.iconst 0, 1) := by decide +kernel
theorem dX4_has_16 : decode cX4_has 16 = .ok (.ireturn, 1) := by decide +kernel
theorem dX4_isGreen_0 : decode cX4_isGreen 0 = .ok (.aload_n 0, 1) := by decide +kernel
theorem dX4_isGreen_1 : decode cX4_isGreen 1 = .ok (.getfield 41, 3) := by decide +kernel
theorem dX4_isGreen_4 : decode cX4_isGreen 4 = .ok (.iload_n 1, 1) := by decide +kernel
theorem dX4_isGreen_5 : decode cX4_isGreen 5 = .ok (.iconst 4, 1) := by decide +kernel
theorem dX4_isGreen_6 : decode cX4_isGreen 6 = .ok (.idiv, 1) := by decide +kernel
theorem dX4_isGreen_7 : decode cX4_isGreen 7 = .ok (.iaload, 1) := by decide +kernel
theorem dX4_isGreen_8 : decode cX4_isGreen 8 = .ok (.iload_n 1, 1) := by decide +kernel
theorem dX4_isGreen_9 : decode cX4_isGreen 9 = .ok (.if_icmp .ne 19, 3) := by decide +kernel
theorem dX4_isGreen_12 : decode cX4_isGreen 12 = .ok (.aload_n 0, 1) := by decide +kernel
theorem dX4_isGreen_13 : decode cX4_isGreen 13 = .ok (.getfield 47, 3) := by decide +kernel
theorem dX4_isGreen_16 : decode cX4_isGreen 16 = .ok (.iload_n 1, 1) := by decide +kernel
theorem dX4_isGreen_17 : decode cX4_isGreen 17 = .ok (.iconst 4, 1) := by decide +kernel
theorem dX4_isGreen_18 : decode cX4_isGreen 18 = .ok (.idiv, 1) := by decide +kernel
theorem dX4_isGreen_19 : decode cX4_isGreen 19 = .ok (.iaload, 1) := by decide +kernel
theorem dX4_isGreen_20 : decode cX4_isGreen 20 = .ok (.iconst 1, 1) := by decide +kernel
theorem dX4_isGreen_21 : decode cX4_isGreen 21 = .ok (.if_icmp .ne 7, 3) := by decide +kernel
theorem dX4_isGreen_24 : decode cX4_isGreen 24 = .ok (.iconst 1, 1) := by decide +kernel
theorem dX4_isGreen_25 : decode cX4_isGreen 25 = .ok (.goto 4, 3) := by decide +kernel
theorem dX4_isGreen_28 : decode cX4_isGreen 28 = .ok (.iconst 0, 1) := by decide +kernel
theorem dX4_isGreen_29 : decode cX4_isGreen 29 = .ok (.ireturn, 1) := by decide +kernel
theorem dX4_isCalled_0 : decode cX4_isCalled 0 = .ok (.aload_n 0, 1) := by decide +kernel
theorem dX4_isCalled_1 : decode cX4_isCalled 1 = .ok (.iload_n 1, 1) := by decide +kernel
theorem dX4_isCalled_2 : decode cX4_isCalled 2 = .ok (.iconst 1, 1) := by decide +kernel
theorem dX4_isCalled_3 : decode cX4_isCalled 3 = .ok (.invokevirtual 75, 3) := by decide +kernel
theorem dX4_isCalled_6 : decode cX4_isCalled 6 = .ok (.ifCond .eq 71, 3) := by decide +kernel
theorem dX4_isCalled_9 : decode cX4_isCalled 9 = .ok (.aload_n 0, 1) := by decide +kernel
theorem dX4_isCalled_10 : decode cX4_isCalled 10 = .ok (.iload_n 1, 1) := by decide +kernel
theorem dX4_isCalled_11 : decode cX4_isCalled 11 = .ok (.invokevirtual 79, 3) := by decide +kernel
theorem dX4_isCalled_14 : decode cX4_isCalled 14 = .ok (.ifCond .ne 63, 3) := by decide +kernel
theorem dX4_isCalled_17 : decode cX4_isCalled 17 = .ok (.aload_n 0, 1) := by decide +kernel
theorem dX4_isCalled_18 : decode cX4_isCalled 18 = .ok (.getfield 16, 3) := by decide +kernel
theorem dX4_isCalled_21 : decode cX4_isCalled 21 = .ok (.iload_n 1, 1) := by decide +kernel
theorem dX4_isCalled_22 : decode cX4_isCalled 22 = .ok (.baload, 1) := by decide +kernel
theorem dX4_isCalled_23 : decode cX4_isCalled 23 = .ok (.ifCond .ne 50, 3) := by decide +kernel
theorem dX4_isCalled_26 : decode cX4_isCalled 26 = .ok (.aload_n 0, 1) := by decide +kernel
theorem dX4_isCalled_27 : decode cX4_isCalled 27 = .ok (.getfield 23, 3) := by decide +kernel
theorem dX4_isCalled_30 : decode cX4_isCalled 30 = .ok (.iload_n 1, 1) := by decide +kernel
theorem dX4_isCalled_31 : decode cX4_isCalled 31 = .ok (.baload, 1) := by decide +kernel
theorem dX4_isCalled_32 : decode cX4_isCalled 32 = .ok (.ifCond .ne 41, 3) := by decide +kernel
theorem dX4_isCalled_35 : decode cX4_isCalled 35 = .ok (.aload_n 0, 1) := by decide +kernel
theorem dX4_isCalled_36 : decode cX4_isCalled 36 = .ok (.getfield 20, 3) := by decide +kernel
theorem dX4_isCalled_39 : decode cX4_isCalled 39 = .ok (.iload_n 1, 1) := by decide +kernel
theorem dX4_isCalled_40 : decode cX4_isCalled 40 = .ok (.baload, 1) := by decide +kernel
theorem dX4_isCalled_41 : decode cX4_isCalled 41 = .ok (.ifCond .ne 32, 3) := by decide +kernel
theorem dX4_isCalled_44 : decode cX4_isCalled 44 = .ok (.aload_n 0, 1) := by decide +kernel
theorem dX4_isCalled_45 : decode cX4_isCalled 45 = .ok (.iload_n 1, 1) := by decide +kernel
theorem dX4_isCalled_46 : decode cX4_isCalled 46 = .ok (.iconst 4, 1) := by decide +kernel
theorem dX4_isCalled_47 : decode cX4_isCalled 47 = .ok (.invokevirtual 75, 3) := by decide +kernel
theorem dX4_isCalled_50 : decode cX4_isCalled 50 = .ok (.ifCond .ne 23, 3) := by decide +kernel
theorem dX4_isCalled_53 : decode cX4_isCalled 53 = .ok (.aload_n 0, 1) := by decide +kernel
theorem dX4_isCalled_54 : decode cX4_isCalled 54 = .ok (.iload_n 1, 1) := by decide +kernel
theorem dX4_isCalled_55 : decode cX4_isCalled 55 = .ok (.bipush 8, 2) := by decide +kernel
theorem dX4_isCalled_57 : decode cX4_isCalled 57 = .ok (.invokevirtual 75, 3) := by decide +kernel
theorem dX4_isCalled_60 : decode cX4_isCalled 60 = .ok (.ifCond .ne 13, 3) := by decide +kernel
theorem dX4_isCalled_63 : decode cX4_isCalled 63 = .ok (.aload_n 0, 1) := by decide +kernel
theorem dX4_isCalled_64 : decode cX4_isCalled 64 = .ok (.iload_n 1, 1) := by decide +kernel
theorem dX4_isCalled_65 : decode cX4_isCalled 65 = .ok (.bipush 16, 2) := by decide +kernel
theorem dX4_isCalled_67 : decode cX4_isCalled 67 = .ok (.invokevirtual 75, 3) := by decide +kernel
theorem dX4_isCalled_70 : decode cX4_isCalled 70 = .ok (.ifCond .eq 7, 3) := by decide +kernel
theorem dX4_isCalled_73 : decode cX4_isCalled 73 = .ok (.iconst 1, 1) := by decide +kernel
theorem dX4_isCalled_74 : decode cX4_isCalled 74 = .ok (.goto 4, 3) := by decide +kernel
theorem dX4_isCalled_77 : decode cX4_isCalled 77 = .ok (.iconst 0, 1) := by decide +kernel
theorem dX4_isCalled_78 : decode cX4_isCalled 78 = .ok (.ireturn, 1) := by decide +kernel
theorem dX4_fits_0 : decode cX4_fits 0 = .ok (.iload_n 0, 1) := by decide +kernel
theorem dX4_fits_1 : decode cX4_fits 1 = .ok (.tableswitch 145 0 6 #[43, 61, 77, 95, 112, 61, 128], 43) := by decide +kernel
theorem dX4_fits_44 : decode cX4_fits 44 = .ok (.iload_n 1, 1) := by decide +kernel
theorem dX4_fits_45 : decode cX4_fits 45 = .ok (.iconst 1, 1) := by decide +kernel
theorem dX4_fits_46 : decode cX4_fits 46 = .ok (.if_icmp .lt 14, 3) := by decide +kernel
theorem dX4_fits_49 : decode cX4_fits 49 = .ok (.iload_n 1, 1) := by decide +kernel
theorem dX4_fits_50 : decode cX4_fits 50 = .ok (.sipush 200, 3) := by decide +kernel
theorem dX4_fits_53 : decode cX4_fits 53 = .ok (.if_icmp .gt 7, 3) := by decide +kernel
theorem dX4_fits_56 : decode cX4_fits 56 = .ok (.iconst 1, 1) := by decide +kernel
theorem dX4_fits_57 : decode cX4_fits 57 = .ok (.goto 4, 3) := by decide +kernel
theorem dX4_fits_60 : decode cX4_fits 60 = .ok (.iconst 0, 1) := by decide +kernel
theorem dX4_fits_61 : decode cX4_fits 61 = .ok (.ireturn, 1) := by decide +kernel
theorem dX4_fits_62 : decode cX4_fits 62 = .ok (.iload_n 1, 1) := by decide +kernel
theorem dX4_fits_63 : decode cX4_fits 63 = .ok (.ifCond .lt 13, 3) := by decide +kernel
theorem dX4_fits_66 : decode cX4_fits 66 = .ok (.iload_n 1, 1) := by decide +kernel
theorem dX4_fits_67 : decode cX4_fits 67 = .ok (.bipush 100, 2) := by decide +kernel
theorem dX4_fits_69 : decode cX4_fits 69 = .ok (.if_icmp .gt 7, 3) := by decide +kernel
theorem dX4_fits_72 : decode cX4_fits 72 = .ok (.iconst 1, 1) := by decide +kernel
theorem dX4_fits_73 : decode cX4_fits 73 = .ok (.goto 4, 3) := by decide +kernel
theorem dX4_fits_76 : decode cX4_fits 76 = .ok (.iconst 0, 1) := by decide +kernel
theorem dX4_fits_77 : decode cX4_fits 77 = .ok (.ireturn, 1) := by decide +kernel
theorem dX4_fits_78 : decode cX4_fits 78 = .ok (.iload_n 1, 1) := by decide +kernel
theorem dX4_fits_79 : decode cX4_fits 79 = .ok (.iconst 1, 1) := by decide +kernel
theorem dX4_fits_80 : decode cX4_fits 80 = .ok (.if_icmp .lt 14, 3) := by decide +kernel
theorem dX4_fits_83 : decode cX4_fits 83 = .ok (.iload_n 1, 1) := by decide +kernel
theorem dX4_fits_84 : decode cX4_fits 84 = .ok (.sipush 500, 3) := by decide +kernel
theorem dX4_fits_87 : decode cX4_fits 87 = .ok (.if_icmp .gt 7, 3) := by decide +kernel
theorem dX4_fits_90 : decode cX4_fits 90 = .ok (.iconst 1, 1) := by decide +kernel
theorem dX4_fits_91 : decode cX4_fits 91 = .ok (.goto 4, 3) := by decide +kernel
theorem dX4_fits_94 : decode cX4_fits 94 = .ok (.iconst 0, 1) := by decide +kernel
theorem dX4_fits_95 : decode cX4_fits 95 = .ok (.ireturn, 1) := by decide +kernel
theorem dX4_fits_96 : decode cX4_fits 96 = .ok (.iload_n 1, 1) := by decide +kernel
theorem dX4_fits_97 : decode cX4_fits 97 = .ok (.iconst 3, 1) := by decide +kernel
theorem dX4_fits_98 : decode cX4_fits 98 = .ok (.if_icmp .lt 13, 3) := by decide +kernel
theorem dX4_fits_101 : decode cX4_fits 101 = .ok (.iload_n 1, 1) := by decide +kernel
theorem dX4_fits_102 : decode cX4_fits 102 = .ok (.bipush 50, 2) := by decide +kernel
theorem dX4_fits_104 : decode cX4_fits 104 = .ok (.if_icmp .gt 7, 3) := by decide +kernel
theorem dX4_fits_107 : decode cX4_fits 107 = .ok (.iconst 1, 1) := by decide +kernel
theorem dX4_fits_108 : decode cX4_fits 108 = .ok (.goto 4, 3) := by decide +kernel
theorem dX4_fits_111 : decode cX4_fits 111 = .ok (.iconst 0, 1) := by decide +kernel
theorem dX4_fits_112 : decode cX4_fits 112 = .ok (.ireturn, 1) := by decide +kernel
theorem dX4_fits_113 : decode cX4_fits 113 = .ok (.iload_n 1, 1) := by decide +kernel
theorem dX4_fits_114 : decode cX4_fits 114 = .ok (.ifCond .lt 13, 3) := by decide +kernel
theorem dX4_fits_117 : decode cX4_fits 117 = .ok (.iload_n 1, 1) := by decide +kernel
theorem dX4_fits_118 : decode cX4_fits 118 = .ok (.bipush 50, 2) := by decide +kernel
theorem dX4_fits_120 : decode cX4_fits 120 = .ok (.if_icmp .gt 7, 3) := by decide +kernel
theorem dX4_fits_123 : decode cX4_fits 123 = .ok (.iconst 1, 1) := by decide +kernel
theorem dX4_fits_124 : decode cX4_fits 124 = .ok (.goto 4, 3) := by decide +kernel
theorem dX4_fits_127 : decode cX4_fits 127 = .ok (.iconst 0, 1) := by decide +kernel
theorem dX4_fits_128 : decode cX4_fits 128 = .ok (.ireturn, 1) := by decide +kernel
theorem dX4_fits_129 : decode cX4_fits 129 = .ok (.iload_n 1, 1) := by decide +kernel
theorem dX4_fits_130 : decode cX4_fits 130 = .ok (.ifCond .lt 14, 3) := by decide +kernel
theorem dX4_fits_133 : decode cX4_fits 133 = .ok (.iload_n 1, 1) := by decide +kernel
theorem dX4_fits_134 : decode cX4_fits 134 = .ok (.sipush 200, 3) := by decide +kernel
theorem dX4_fits_137 : decode cX4_fits 137 = .ok (.if_icmp .gt 7, 3) := by decide +kernel
theorem dX4_fits_140 : decode cX4_fits 140 = .ok (.iconst 1, 1) := by decide +kernel
theorem dX4_fits_141 : decode cX4_fits 141 = .ok (.goto 4, 3) := by decide +kernel
theorem dX4_fits_144 : decode cX4_fits 144 = .ok (.iconst 0, 1) := by decide +kernel
theorem dX4_fits_145 : decode cX4_fits 145 = .ok (.ireturn, 1) := by decide +kernel
theorem dX4_fits_146 : decode cX4_fits 146 = .ok (.iconst 0, 1) := by decide +kernel
theorem dX4_fits_147 : decode cX4_fits 147 = .ok (.ireturn, 1) := by decide +kernel
theorem dX4_set_0 : decode cX4_set 0 = .ok (.aload_n 0, 1) := by decide +kernel
theorem dX4_set_1 : decode cX4_set 1 = .ok (.iconst 0, 1) := by decide +kernel
theorem dX4_set_2 : decode cX4_set 2 = .ok (.putfield 71, 3) := by decide +kernel
theorem dX4_set_5 : decode cX4_set 5 = .ok (.iload_n 1, 1) := by decide +kernel
theorem dX4_set_6 : decode cX4_set 6 = .ok (.invokestatic 83, 3) := by decide +kernel
theorem dX4_set_9 : decode cX4_set 9 = .ok (.ifCond .eq 11, 3) := by decide +kernel
theorem dX4_set_12 : decode cX4_set 12 = .ok (.iload_n 2, 1) := by decide +kernel
theorem dX4_set_13 : decode cX4_set 13 = .ok (.iload_n 3, 1) := by decide +kernel
theorem dX4_set_14 : decode cX4_set 14 = .ok (.invokestatic 86, 3) := by decide +kernel
theorem dX4_set_17 : decode cX4_set 17 = .ok (.ifCond .ne 5, 3) := by decide +kernel
theorem dX4_set_20 : decode cX4_set 20 = .ok (.iconst 0, 1) := by decide +kernel
theorem dX4_set_21 : decode cX4_set 21 = .ok (.ireturn, 1) := by decide +kernel
theorem dX4_set_22 : decode cX4_set 22 = .ok (.aload_n 0, 1) := by decide +kernel
theorem dX4_set_23 : decode cX4_set 23 = .ok (.getfield 7, 3) := by decide +kernel
theorem dX4_set_26 : decode cX4_set 26 = .ok (.bipush 7, 2) := by decide +kernel
theorem dX4_set_28 : decode cX4_set 28 = .ok (.iload_n 1, 1) := by decide +kernel
theorem dX4_set_29 : decode cX4_set 29 = .ok (.imul, 1) := by decide +kernel
theorem dX4_set_30 : decode cX4_set 30 = .ok (.iload_n 2, 1) := by decide +kernel
theorem dX4_set_31 : decode cX4_set 31 = .ok (.iadd, 1) := by decide +kernel
theorem dX4_set_32 : decode cX4_set 32 = .ok (.iload_n 3, 1) := by decide +kernel
theorem dX4_set_33 : decode cX4_set 33 = .ok (.iastore, 1) := by decide +kernel
theorem dX4_set_34 : decode cX4_set 34 = .ok (.iconst 1, 1) := by decide +kernel
theorem dX4_set_35 : decode cX4_set 35 = .ok (.ireturn, 1) := by decide +kernel
theorem dX4_mode_0 : decode cX4_mode 0 = .ok (.aload_n 0, 1) := by decide +kernel
theorem dX4_mode_1 : decode cX4_mode 1 = .ok (.iconst 0, 1) := by decide +kernel
theorem dX4_mode_2 : decode cX4_mode 2 = .ok (.putfield 71, 3) := by decide +kernel
theorem dX4_mode_5 : decode cX4_mode 5 = .ok (.iload_n 1, 1) := by decide +kernel
theorem dX4_mode_6 : decode cX4_mode 6 = .ok (.invokestatic 83, 3) := by decide +kernel
theorem dX4_mode_9 : decode cX4_mode 9 = .ok (.ifCond .eq 13, 3) := by decide +kernel
theorem dX4_mode_12 : decode cX4_mode 12 = .ok (.iload_n 2, 1) := by decide +kernel
theorem dX4_mode_13 : decode cX4_mode 13 = .ok (.ifCond .lt 9, 3) := by decide +kernel
theorem dX4_mode_16 : decode cX4_mode 16 = .ok (.iload_n 2, 1) := by decide +kernel
theorem dX4_mode_17 : decode cX4_mode 17 = .ok (.bipush 63, 2) := by decide +kernel
theorem dX4_mode_19 : decode cX4_mode 19 = .ok (.if_icmp .le 5, 3) := by decide +kernel
theorem dX4_mode_22 : decode cX4_mode 22 = .ok (.iconst 0, 1) := by decide +kernel
theorem dX4_mode_23 : decode cX4_mode 23 = .ok (.ireturn, 1) := by decide +kernel
theorem dX4_mode_24 : decode cX4_mode 24 = .ok (.aload_n 0, 1) := by decide +kernel
theorem dX4_mode_25 : decode cX4_mode 25 = .ok (.getfield 13, 3) := by decide +kernel
theorem dX4_mode_28 : decode cX4_mode 28 = .ok (.iload_n 1, 1) := by decide +kernel
theorem dX4_mode_29 : decode cX4_mode 29 = .ok (.iload_n 2, 1) := by decide +kernel
theorem dX4_mode_30 : decode cX4_mode 30 = .ok (.iastore, 1) := by decide +kernel
theorem dX4_mode_31 : decode cX4_mode 31 = .ok (.iconst 1, 1) := by decide +kernel
theorem dX4_mode_32 : decode cX4_mode 32 = .ok (.ireturn, 1) := by decide +kernel
theorem dX4_isOf_0 : decode cX4_isOf 0 = .ok (.iload_n 0, 1) := by decide +kernel
theorem dX4_isOf_1 : decode cX4_isOf 1 = .ok (.ifCond .lt 23, 3) := by decide +kernel
theorem dX4_isOf_4 : decode cX4_isOf 4 = .ok (.iload_n 0, 1) := by decide +kernel
theorem dX4_isOf_5 : decode cX4_isOf 5 = .ok (.iconst 4, 1) := by decide +kernel
theorem dX4_isOf_6 : decode cX4_isOf 6 = .ok (.idiv, 1) := by decide +kernel
theorem dX4_isOf_7 : decode cX4_isOf 7 = .ok (.iload_n 1, 1) := by decide +kernel
theorem dX4_isOf_8 : decode cX4_isOf 8 = .ok (.if_icmp .ne 16, 3) := by decide +kernel
theorem dX4_isOf_11 : decode cX4_isOf 11 = .ok (.iload_n 0, 1) := by decide +kernel
theorem dX4_isOf_12 : decode cX4_isOf 12 = .ok (.iconst 4, 1) := by decide +kernel
theorem dX4_isOf_13 : decode cX4_isOf 13 = .ok (.irem, 1) := by decide +kernel
theorem dX4_isOf_14 : decode cX4_isOf 14 = .ok (.iconst 2, 1) := by decide +kernel
theorem dX4_isOf_15 : decode cX4_isOf 15 = .ok (.idiv, 1) := by decide +kernel
theorem dX4_isOf_16 : decode cX4_isOf 16 = .ok (.iload_n 2, 1) := by decide +kernel
theorem dX4_isOf_17 : decode cX4_isOf 17 = .ok (.if_icmp .ne 7, 3) := by decide +kernel
theorem dX4_isOf_20 : decode cX4_isOf 20 = .ok (.iconst 1, 1) := by decide +kernel
theorem dX4_isOf_21 : decode cX4_isOf 21 = .ok (.goto 4, 3) := by decide +kernel
theorem dX4_isOf_24 : decode cX4_isOf 24 = .ok (.iconst 0, 1) := by decide +kernel
theorem dX4_isOf_25 : decode cX4_isOf 25 = .ok (.ireturn, 1) := by decide +kernel
theorem dX4_exchange_0 : decode cX4_exchange 0 = .ok (.aload_n 0, 1) := by decide +kernel
theorem dX4_exchange_1 : decode cX4_exchange 1 = .ok (.iconst 0, 1) := by decide +kernel
theorem dX4_exchange_2 : decode cX4_exchange 2 = .ok (.putfield 71, 3) := by decide +kernel
theorem dX4_exchange_5 : decode cX4_exchange 5 = .ok (.iload_n 1, 1) := by decide +kernel
theorem dX4_exchange_6 : decode cX4_exchange 6 = .ok (.ifCond .lt 21, 3) := by decide +kernel
theorem dX4_exchange_9 : decode cX4_exchange 9 = .ok (.iload_n 1, 1) := by decide +kernel
theorem dX4_exchange_10 : decode cX4_exchange 10 = .ok (.iconst 1, 1) := by decide +kernel
theorem dX4_exchange_11 : decode cX4_exchange 11 = .ok (.if_icmp .gt 16, 3) := by decide +kernel
theorem dX4_exchange_14 : decode cX4_exchange 14 = .ok (.iload_n 2, 1) := by decide +kernel
theorem dX4_exchange_15 : decode cX4_exchange 15 = .ok (.ifCond .lt 12, 3) := by decide +kernel
theorem dX4_exchange_18 : decode cX4_exchange 18 = .ok (.iload_n 2, 1) := by decide +kernel
theorem dX4_exchange_19 : decode cX4_exchange 19 = .ok (.iconst 1, 1) := by decide +kernel
theorem dX4_exchange_20 : decode cX4_exchange 20 = .ok (.if_icmp .gt 7, 3) := by decide +kernel
theorem dX4_exchange_23 : decode cX4_exchange 23 = .ok (.iconst 1, 1) := by decide +kernel
theorem dX4_exchange_24 : decode cX4_exchange 24 = .ok (.goto 4, 3) := by decide +kernel
theorem dX4_exchange_27 : decode cX4_exchange 27 = .ok (.iconst 0, 1) := by decide +kernel
theorem dX4_exchange_28 : decode cX4_exchange 28 = .ok (.istore_n 3, 1) := by decide +kernel
theorem dX4_exchange_29 : decode cX4_exchange 29 = .ok (.iload_n 3, 1) := by decide +kernel
theorem dX4_exchange_30 : decode cX4_exchange 30 = .ok (.ifCond .eq 31, 3) := by decide +kernel
theorem dX4_exchange_33 : decode cX4_exchange 33 = .ok (.aload_n 0, 1) := by decide +kernel
theorem dX4_exchange_34 : decode cX4_exchange 34 = .ok (.getfield 41, 3) := by decide +kernel
theorem dX4_exchange_37 : decode cX4_exchange 37 = .ok (.iload_n 1, 1) := by decide +kernel
theorem dX4_exchange_38 : decode cX4_exchange 38 = .ok (.iaload, 1) := by decide +kernel
theorem dX4_exchange_39 : decode cX4_exchange 39 = .ok (.iload_n 1, 1) := by decide +kernel
theorem dX4_exchange_40 : decode cX4_exchange 40 = .ok (.iload_n 2, 1) := by decide +kernel
theorem dX4_exchange_41 : decode cX4_exchange 41 = .ok (.invokestatic 89, 3) := by decide +kernel
theorem dX4_exchange_44 : decode cX4_exchange 44 = .ok (.ifCond .ne 17, 3) := by decide +kernel
theorem dX4_exchange_47 : decode cX4_exchange 47 = .ok (.aload_n 0, 1) := by decide +kernel
theorem dX4_exchange_48 : decode cX4_exchange 48 = .ok (.getfield 44, 3) := by decide +kernel
theorem dX4_exchange_51 : decode cX4_exchange 51 = .ok (.iload_n 1, 1) := by decide +kernel
theorem dX4_exchange_52 : decode cX4_exchange 52 = .ok (.iaload, 1) := by decide +kernel
theorem dX4_exchange_53 : decode cX4_exchange 53 = .ok (.iload_n 1, 1) := by decide +kernel
theorem dX4_exchange_54 : decode cX4_exchange 54 = .ok (.iload_n 2, 1) := by decide +kernel
theorem dX4_exchange_55 : decode cX4_exchange 55 = .ok (.invokestatic 89, 3) := by decide +kernel
theorem dX4_exchange_58 : decode cX4_exchange 58 = .ok (.ifCond .eq 5, 3) := by decide +kernel
theorem dX4_exchange_61 : decode cX4_exchange 61 = .ok (.iconst 0, 1) := by decide +kernel
theorem dX4_exchange_62 : decode cX4_exchange 62 = .ok (.ireturn, 1) := by decide +kernel
theorem dX4_exchange_63 : decode cX4_exchange 63 = .ok (.aload_n 0, 1) := by decide +kernel
theorem dX4_exchange_64 : decode cX4_exchange 64 = .ok (.getfield 38, 3) := by decide +kernel
theorem dX4_exchange_67 : decode cX4_exchange 67 = .ok (.iconst 2, 1) := by decide +kernel
theorem dX4_exchange_68 : decode cX4_exchange 68 = .ok (.iload_n 1, 1) := by decide +kernel
theorem dX4_exchange_69 : decode cX4_exchange 69 = .ok (.imul, 1) := by decide +kernel
theorem dX4_exchange_70 : decode cX4_exchange 70 = .ok (.iload_n 2, 1) := by decide +kernel
theorem dX4_exchange_71 : decode cX4_exchange 71 = .ok (.iadd, 1) := by decide +kernel
theorem dX4_exchange_72 : decode cX4_exchange 72 = .ok (.aload_n 0, 1) := by decide +kernel
theorem dX4_exchange_73 : decode cX4_exchange 73 = .ok (.getfield 38, 3) := by decide +kernel
theorem dX4_exchange_76 : decode cX4_exchange 76 = .ok (.iconst 2, 1) := by decide +kernel
theorem dX4_exchange_77 : decode cX4_exchange 77 = .ok (.iload_n 1, 1) := by decide +kernel
theorem dX4_exchange_78 : decode cX4_exchange 78 = .ok (.imul, 1) := by decide +kernel
theorem dX4_exchange_79 : decode cX4_exchange 79 = .ok (.iload_n 2, 1) := by decide +kernel
theorem dX4_exchange_80 : decode cX4_exchange 80 = .ok (.iadd, 1) := by decide +kernel
theorem dX4_exchange_81 : decode cX4_exchange 81 = .ok (.baload, 1) := by decide +kernel
theorem dX4_exchange_82 : decode cX4_exchange 82 = .ok (.ifCond .ne 7, 3) := by decide +kernel
theorem dX4_exchange_85 : decode cX4_exchange 85 = .ok (.iconst 1, 1) := by decide +kernel
theorem dX4_exchange_86 : decode cX4_exchange 86 = .ok (.goto 4, 3) := by decide +kernel
theorem dX4_exchange_89 : decode cX4_exchange 89 = .ok (.iconst 0, 1) := by decide +kernel
theorem dX4_exchange_90 : decode cX4_exchange 90 = .ok (.bastore, 1) := by decide +kernel
theorem dX4_exchange_91 : decode cX4_exchange 91 = .ok (.iconst 1, 1) := by decide +kernel
theorem dX4_exchange_92 : decode cX4_exchange 92 = .ok (.ireturn, 1) := by decide +kernel
theorem dX4_car_0 : decode cX4_car 0 = .ok (.aload_n 0, 1) := by decide +kernel
theorem dX4_car_1 : decode cX4_car 1 = .ok (.iconst 0, 1) := by decide +kernel
theorem dX4_car_2 : decode cX4_car 2 = .ok (.putfield 71, 3) := by decide +kernel
theorem dX4_car_5 : decode cX4_car 5 = .ok (.iload_n 1, 1) := by decide +kernel
theorem dX4_car_6 : decode cX4_car 6 = .ok (.invokestatic 83, 3) := by decide +kernel
theorem dX4_car_9 : decode cX4_car 9 = .ok (.ifCond .eq 31, 3) := by decide +kernel
theorem dX4_car_12 : decode cX4_car 12 = .ok (.iload_n 2, 1) := by decide +kernel
theorem dX4_car_13 : decode cX4_car 13 = .ok (.ifCond .lt 27, 3) := by decide +kernel
theorem dX4_car_16 : decode cX4_car 16 = .ok (.iload_n 2, 1) := by decide +kernel
theorem dX4_car_17 : decode cX4_car 17 = .ok (.iconst 1, 1) := by decide +kernel
theorem dX4_car_18 : decode cX4_car 18 = .ok (.if_icmp .gt 22, 3) := by decide +kernel
theorem dX4_car_21 : decode cX4_car 21 = .ok (.aload_n 0, 1) := by decide +kernel
theorem dX4_car_22 : decode cX4_car 22 = .ok (.getfield 16, 3) := by decide +kernel
theorem dX4_car_25 : decode cX4_car 25 = .ok (.iload_n 1, 1) := by decide +kernel
theorem dX4_car_26 : decode cX4_car 26 = .ok (.baload, 1) := by decide +kernel
theorem dX4_car_27 : decode cX4_car 27 = .ok (.iload_n 2, 1) := by decide +kernel
theorem dX4_car_28 : decode cX4_car 28 = .ok (.iconst 1, 1) := by decide +kernel
theorem dX4_car_29 : decode cX4_car 29 = .ok (.if_icmp .ne 7, 3) := by decide +kernel
theorem dX4_car_32 : decode cX4_car 32 = .ok (.iconst 1, 1) := by decide +kernel
theorem dX4_car_33 : decode cX4_car 33 = .ok (.goto 4, 3) := by decide +kernel
theorem dX4_car_36 : decode cX4_car 36 = .ok (.iconst 0, 1) := by decide +kernel
theorem dX4_car_37 : decode cX4_car 37 = .ok (.if_icmp .ne 5, 3) := by decide +kernel
theorem dX4_car_40 : decode cX4_car 40 = .ok (.iconst 0, 1) := by decide +kernel
theorem dX4_car_41 : decode cX4_car 41 = .ok (.ireturn, 1) := by decide +kernel
theorem dX4_car_42 : decode cX4_car 42 = .ok (.aload_n 0, 1) := by decide +kernel
theorem dX4_car_43 : decode cX4_car 43 = .ok (.getfield 16, 3) := by decide +kernel
theorem dX4_car_46 : decode cX4_car 46 = .ok (.iload_n 1, 1) := by decide +kernel
theorem dX4_car_47 : decode cX4_car 47 = .ok (.iload_n 2, 1) := by decide +kernel
theorem dX4_car_48 : decode cX4_car 48 = .ok (.iconst 1, 1) := by decide +kernel
theorem dX4_car_49 : decode cX4_car 49 = .ok (.if_icmp .ne 7, 3) := by decide +kernel
theorem dX4_car_52 : decode cX4_car 52 = .ok (.iconst 1, 1) := by decide +kernel
theorem dX4_car_53 : decode cX4_car 53 = .ok (.goto 4, 3) := by decide +kernel
theorem dX4_car_56 : decode cX4_car 56 = .ok (.iconst 0, 1) := by decide +kernel
theorem dX4_car_57 : decode cX4_car 57 = .ok (.bastore, 1) := by decide +kernel
theorem dX4_car_58 : decode cX4_car 58 = .ok (.aload_n 0, 1) := by decide +kernel
theorem dX4_car_59 : decode cX4_car 59 = .ok (.getfield 23, 3) := by decide +kernel
theorem dX4_car_62 : decode cX4_car 62 = .ok (.iload_n 1, 1) := by decide +kernel
theorem dX4_car_63 : decode cX4_car 63 = .ok (.aload_n 0, 1) := by decide +kernel
theorem dX4_car_64 : decode cX4_car 64 = .ok (.getfield 23, 3) := by decide +kernel
theorem dX4_car_67 : decode cX4_car 67 = .ok (.iload_n 1, 1) := by decide +kernel
theorem dX4_car_68 : decode cX4_car 68 = .ok (.baload, 1) := by decide +kernel
theorem dX4_car_69 : decode cX4_car 69 = .ok (.ifCond .ne 25, 3) := by decide +kernel
theorem dX4_car_72 : decode cX4_car 72 = .ok (.iload_n 2, 1) := by decide +kernel
theorem dX4_car_73 : decode cX4_car 73 = .ok (.iconst 1, 1) := by decide +kernel
theorem dX4_car_74 : decode cX4_car 74 = .ok (.if_icmp .ne 24, 3) := by decide +kernel
theorem dX4_car_77 : decode cX4_car 77 = .ok (.aload_n 0, 1) := by decide +kernel
theorem dX4_car_78 : decode cX4_car 78 = .ok (.iload_n 1, 1) := by decide +kernel
theorem dX4_car_79 : decode cX4_car 79 = .ok (.invokevirtual 79, 3) := by decide +kernel
theorem dX4_car_82 : decode cX4_car 82 = .ok (.ifCond .ne 16, 3) := by decide +kernel
theorem dX4_car_85 : decode cX4_car 85 = .ok (.aload_n 0, 1) := by decide +kernel
theorem dX4_car_86 : decode cX4_car 86 = .ok (.iload_n 1, 1) := by decide +kernel
theorem dX4_car_87 : decode cX4_car 87 = .ok (.iconst 2, 1) := by decide +kernel
theorem dX4_car_88 : decode cX4_car 88 = .ok (.invokevirtual 75, 3) := by decide +kernel
theorem dX4_car_91 : decode cX4_car 91 = .ok (.ifCond .eq 7, 3) := by decide +kernel
theorem dX4_car_94 : decode cX4_car 94 = .ok (.iconst 1, 1) := by decide +kernel
theorem dX4_car_95 : decode cX4_car 95 = .ok (.goto 4, 3) := by decide +kernel
theorem dX4_car_98 : decode cX4_car 98 = .ok (.iconst 0, 1) := by decide +kernel
theorem dX4_car_99 : decode cX4_car 99 = .ok (.bastore, 1) := by decide +kernel
theorem dX4_car_100 : decode cX4_car 100 = .ok (.iconst 1, 1) := by decide +kernel
theorem dX4_car_101 : decode cX4_car 101 = .ok (.ireturn, 1) := by decide +kernel
theorem dX4_push_0 : decode cX4_push 0 = .ok (.aload_n 0, 1) := by decide +kernel
theorem dX4_push_1 : decode cX4_push 1 = .ok (.iconst 0, 1) := by decide +kernel
theorem dX4_push_2 : decode cX4_push 2 = .ok (.putfield 71, 3) := by decide +kernel
theorem dX4_push_5 : decode cX4_push 5 = .ok (.iload_n 1, 1) := by decide +kernel
theorem dX4_push_6 : decode cX4_push 6 = .ok (.invokestatic 83, 3) := by decide +kernel
theorem dX4_push_9 : decode cX4_push 9 = .ok (.ifCond .eq 12, 3) := by decide +kernel
theorem dX4_push_12 : decode cX4_push 12 = .ok (.aload_n 0, 1) := by decide +kernel
theorem dX4_push_13 : decode cX4_push 13 = .ok (.getfield 20, 3) := by decide +kernel
theorem dX4_push_16 : decode cX4_push 16 = .ok (.iload_n 1, 1) := by decide +kernel
theorem dX4_push_17 : decode cX4_push 17 = .ok (.baload, 1) := by decide +kernel
theorem dX4_push_18 : decode cX4_push 18 = .ok (.ifCond .eq 5, 3) := by decide +kernel
theorem dX4_push_21 : decode cX4_push 21 = .ok (.iconst 0, 1) := by decide +kernel
theorem dX4_push_22 : decode cX4_push 22 = .ok (.ireturn, 1) := by decide +kernel
theorem dX4_push_23 : decode cX4_push 23 = .ok (.aload_n 0, 1) := by decide +kernel
theorem dX4_push_24 : decode cX4_push 24 = .ok (.getfield 20, 3) := by decide +kernel
theorem dX4_push_27 : decode cX4_push 27 = .ok (.iload_n 1, 1) := by decide +kernel
theorem dX4_push_28 : decode cX4_push 28 = .ok (.iconst 1, 1) := by decide +kernel
theorem dX4_push_29 : decode cX4_push 29 = .ok (.bastore, 1) := by decide +kernel
theorem dX4_push_30 : decode cX4_push 30 = .ok (.iconst 1, 1) := by decide +kernel
theorem dX4_push_31 : decode cX4_push 31 = .ok (.ireturn, 1) := by decide +kernel
theorem dX4_stick_0 : decode cX4_stick 0 = .ok (.aload_n 0, 1) := by decide +kernel
theorem dX4_stick_1 : decode cX4_stick 1 = .ok (.iconst 0, 1) := by decide +kernel
theorem dX4_stick_2 : decode cX4_stick 2 = .ok (.putfield 71, 3) := by decide +kernel
theorem dX4_stick_5 : decode cX4_stick 5 = .ok (.iload_n 1, 1) := by decide +kernel
theorem dX4_stick_6 : decode cX4_stick 6 = .ok (.invokestatic 83, 3) := by decide +kernel
theorem dX4_stick_9 : decode cX4_stick 9 = .ok (.ifCond .eq 13, 3) := by decide +kernel
theorem dX4_stick_12 : decode cX4_stick 12 = .ok (.iload_n 2, 1) := by decide +kernel
theorem dX4_stick_13 : decode cX4_stick 13 = .ok (.iconst (-1), 1) := by decide +kernel
theorem dX4_stick_14 : decode cX4_stick 14 = .ok (.if_icmp .lt 8, 3) := by decide +kernel
theorem dX4_stick_17 : decode cX4_stick 17 = .ok (.iload_n 2, 1) := by decide +kernel
theorem dX4_stick_18 : decode cX4_stick 18 = .ok (.iconst 2, 1) := by decide +kernel
theorem dX4_stick_19 : decode cX4_stick 19 = .ok (.if_icmp .le 5, 3) := by decide +kernel
theorem dX4_stick_22 : decode cX4_stick 22 = .ok (.iconst 0, 1) := by decide +kernel
theorem dX4_stick_23 : decode cX4_stick 23 = .ok (.ireturn, 1) := by decide +kernel
theorem dX4_stick_24 : decode cX4_stick 24 = .ok (.aload_n 0, 1) := by decide +kernel
theorem dX4_stick_25 : decode cX4_stick 25 = .ok (.getfield 35, 3) := by decide +kernel
theorem dX4_stick_28 : decode cX4_stick 28 = .ok (.iload_n 1, 1) := by decide +kernel
theorem dX4_stick_29 : decode cX4_stick 29 = .ok (.iload_n 2, 1) := by decide +kernel
theorem dX4_stick_30 : decode cX4_stick 30 = .ok (.iastore, 1) := by decide +kernel
theorem dX4_stick_31 : decode cX4_stick 31 = .ok (.iconst 1, 1) := by decide +kernel
theorem dX4_stick_32 : decode cX4_stick 32 = .ok (.ireturn, 1) := by decide +kernel
theorem dX4_first_0 : decode cX4_first 0 = .ok (.iconst 4, 1) := by decide +kernel
theorem dX4_first_1 : decode cX4_first 1 = .ok (.iload_n 1, 1) := by decide +kernel
theorem dX4_first_2 : decode cX4_first 2 = .ok (.imul, 1) := by decide +kernel
theorem dX4_first_3 : decode cX4_first 3 = .ok (.iconst 2, 1) := by decide +kernel
theorem dX4_first_4 : decode cX4_first 4 = .ok (.iload_n 2, 1) := by decide +kernel
theorem dX4_first_5 : decode cX4_first 5 = .ok (.imul, 1) := by decide +kernel
theorem dX4_first_6 : decode cX4_first 6 = .ok (.iadd, 1) := by decide +kernel
theorem dX4_first_7 : decode cX4_first 7 = .ok (.aload_n 0, 1) := by decide +kernel
theorem dX4_first_8 : decode cX4_first 8 = .ok (.getfield 38, 3) := by decide +kernel
theorem dX4_first_11 : decode cX4_first 11 = .ok (.iconst 2, 1) := by decide +kernel
theorem dX4_first_12 : decode cX4_first 12 = .ok (.iload_n 1, 1) := by decide +kernel
theorem dX4_first_13 : decode cX4_first 13 = .ok (.imul, 1) := by decide +kernel
theorem dX4_first_14 : decode cX4_first 14 = .ok (.iload_n 2, 1) := by decide +kernel
theorem dX4_first_15 : decode cX4_first 15 = .ok (.iadd, 1) := by decide +kernel
theorem dX4_first_16 : decode cX4_first 16 = .ok (.baload, 1) := by decide +kernel
theorem dX4_first_17 : decode cX4_first 17 = .ok (.ifCond .eq 7, 3) := by decide +kernel
theorem dX4_first_20 : decode cX4_first 20 = .ok (.iconst 1, 1) := by decide +kernel
theorem dX4_first_21 : decode cX4_first 21 = .ok (.goto 4, 3) := by decide +kernel
theorem dX4_first_24 : decode cX4_first 24 = .ok (.iconst 0, 1) := by decide +kernel
theorem dX4_first_25 : decode cX4_first 25 = .ok (.iadd, 1) := by decide +kernel
theorem dX4_first_26 : decode cX4_first 26 = .ok (.ireturn, 1) := by decide +kernel
theorem dX4_second_0 : decode cX4_second 0 = .ok (.iconst 4, 1) := by decide +kernel
theorem dX4_second_1 : decode cX4_second 1 = .ok (.iload_n 1, 1) := by decide +kernel
theorem dX4_second_2 : decode cX4_second 2 = .ok (.imul, 1) := by decide +kernel
theorem dX4_second_3 : decode cX4_second 3 = .ok (.iconst 2, 1) := by decide +kernel
theorem dX4_second_4 : decode cX4_second 4 = .ok (.iload_n 2, 1) := by decide +kernel
theorem dX4_second_5 : decode cX4_second 5 = .ok (.imul, 1) := by decide +kernel
theorem dX4_second_6 : decode cX4_second 6 = .ok (.iadd, 1) := by decide +kernel
theorem dX4_second_7 : decode cX4_second 7 = .ok (.aload_n 0, 1) := by decide +kernel
theorem dX4_second_8 : decode cX4_second 8 = .ok (.getfield 38, 3) := by decide +kernel
theorem dX4_second_11 : decode cX4_second 11 = .ok (.iconst 2, 1) := by decide +kernel
theorem dX4_second_12 : decode cX4_second 12 = .ok (.iload_n 1, 1) := by decide +kernel
theorem dX4_second_13 : decode cX4_second 13 = .ok (.imul, 1) := by decide +kernel
theorem dX4_second_14 : decode cX4_second 14 = .ok (.iload_n 2, 1) := by decide +kernel
theorem dX4_second_15 : decode cX4_second 15 = .ok (.iadd, 1) := by decide +kernel
theorem dX4_second_16 : decode cX4_second 16 = .ok (.baload, 1) := by decide +kernel
theorem dX4_second_17 : decode cX4_second 17 = .ok (.ifCond .eq 7, 3) := by decide +kernel
theorem dX4_second_20 : decode cX4_second 20 = .ok (.iconst 0, 1) := by decide +kernel
theorem dX4_second_21 : decode cX4_second 21 = .ok (.goto 4, 3) := by decide +kernel
theorem dX4_second_24 : decode cX4_second 24 = .ok (.iconst 1, 1) := by decide +kernel
theorem dX4_second_25 : decode cX4_second 25 = .ok (.iadd, 1) := by decide +kernel
theorem dX4_second_26 : decode cX4_second 26 = .ok (.ireturn, 1) := by decide +kernel
theorem dX4_calledOf_0 : decode cX4_calledOf 0 = .ok (.aload_n 0, 1) := by decide +kernel
theorem dX4_calledOf_1 : decode cX4_calledOf 1 = .ok (.iload_n 1, 1) := by decide +kernel
theorem dX4_calledOf_2 : decode cX4_calledOf 2 = .ok (.iload_n 2, 1) := by decide +kernel
theorem dX4_calledOf_3 : decode cX4_calledOf 3 = .ok (.invokevirtual 93, 3) := by decide +kernel
theorem dX4_calledOf_6 : decode cX4_calledOf 6 = .ok (.istore_n 3, 1) := by decide +kernel
theorem dX4_calledOf_7 : decode cX4_calledOf 7 = .ok (.aload_n 0, 1) := by decide +kernel
theorem dX4_calledOf_8 : decode cX4_calledOf 8 = .ok (.iload_n 1, 1) := by decide +kernel
theorem dX4_calledOf_9 : decode cX4_calledOf 9 = .ok (.iload_n 2, 1) := by decide +kernel
theorem dX4_calledOf_10 : decode cX4_calledOf 10 = .ok (.invokevirtual 97, 3) := by decide +kernel
theorem dX4_calledOf_13 : decode cX4_calledOf 13 = .ok (.istore 4, 2) := by decide +kernel
theorem dX4_calledOf_15 : decode cX4_calledOf 15 = .ok (.aload_n 0, 1) := by decide +kernel
theorem dX4_calledOf_16 : decode cX4_calledOf 16 = .ok (.iload_n 3, 1) := by decide +kernel
theorem dX4_calledOf_17 : decode cX4_calledOf 17 = .ok (.invokevirtual 100, 3) := by decide +kernel
theorem dX4_calledOf_20 : decode cX4_calledOf 20 = .ok (.ifCond .eq 7, 3) := by decide +kernel
theorem dX4_calledOf_23 : decode cX4_calledOf 23 = .ok (.iload_n 3, 1) := by decide +kernel
theorem dX4_calledOf_24 : decode cX4_calledOf 24 = .ok (.goto 18, 3) := by decide +kernel
theorem dX4_calledOf_27 : decode cX4_calledOf 27 = .ok (.aload_n 0, 1) := by decide +kernel
theorem dX4_calledOf_28 : decode cX4_calledOf 28 = .ok (.iload 4, 2) := by decide +kernel
theorem dX4_calledOf_30 : decode cX4_calledOf 30 = .ok (.invokevirtual 100, 3) := by decide +kernel
theorem dX4_calledOf_33 : decode cX4_calledOf 33 = .ok (.ifCond .eq 8, 3) := by decide +kernel
theorem dX4_calledOf_36 : decode cX4_calledOf 36 = .ok (.iload 4, 2) := by decide +kernel
theorem dX4_calledOf_38 : decode cX4_calledOf 38 = .ok (.goto 4, 3) := by decide +kernel
theorem dX4_calledOf_41 : decode cX4_calledOf 41 = .ok (.iconst (-1), 1) := by decide +kernel
theorem dX4_calledOf_42 : decode cX4_calledOf 42 = .ok (.ireturn, 1) := by decide +kernel
theorem dX4_wait0_0 : decode cX4_wait0 0 = .ok (.iconst 0, 1) := by decide +kernel
theorem dX4_wait0_1 : decode cX4_wait0 1 = .ok (.istore_n 1, 1) := by decide +kernel
theorem dX4_wait0_2 : decode cX4_wait0 2 = .ok (.iload_n 1, 1) := by decide +kernel
theorem dX4_wait0_3 : decode cX4_wait0 3 = .ok (.bipush 8, 2) := by decide +kernel
theorem dX4_wait0_5 : decode cX4_wait0 5 = .ok (.if_icmp .ge 71, 3) := by decide +kernel
theorem dX4_wait0_8 : decode cX4_wait0 8 = .ok (.aload_n 0, 1) := by decide +kernel
theorem dX4_wait0_9 : decode cX4_wait0 9 = .ok (.getfield 26, 3) := by decide +kernel
theorem dX4_wait0_12 : decode cX4_wait0 12 = .ok (.iload_n 1, 1) := by decide +kernel
theorem dX4_wait0_13 : decode cX4_wait0 13 = .ok (.aload_n 0, 1) := by decide +kernel
theorem dX4_wait0_14 : decode cX4_wait0 14 = .ok (.iload_n 1, 1) := by decide +kernel
theorem dX4_wait0_15 : decode cX4_wait0 15 = .ok (.invokevirtual 100, 3) := by decide +kernel
theorem dX4_wait0_18 : decode cX4_wait0 18 = .ok (.ifCond .eq 14, 3) := by decide +kernel
theorem dX4_wait0_21 : decode cX4_wait0 21 = .ok (.aload_n 0, 1) := by decide +kernel
theorem dX4_wait0_22 : decode cX4_wait0 22 = .ok (.getfield 26, 3) := by decide +kernel
theorem dX4_wait0_25 : decode cX4_wait0 25 = .ok (.iload_n 1, 1) := by decide +kernel
theorem dX4_wait0_26 : decode cX4_wait0 26 = .ok (.iaload, 1) := by decide +kernel
theorem dX4_wait0_27 : decode cX4_wait0 27 = .ok (.iconst 1, 1) := by decide +kernel
theorem dX4_wait0_28 : decode cX4_wait0 28 = .ok (.iadd, 1) := by decide +kernel
theorem dX4_wait0_29 : decode cX4_wait0 29 = .ok (.goto 4, 3) := by decide +kernel
theorem dX4_wait0_32 : decode cX4_wait0 32 = .ok (.iconst 0, 1) := by decide +kernel
theorem dX4_wait0_33 : decode cX4_wait0 33 = .ok (.iastore, 1) := by decide +kernel
theorem dX4_wait0_34 : decode cX4_wait0 34 = .ok (.aload_n 0, 1) := by decide +kernel
theorem dX4_wait0_35 : decode cX4_wait0 35 = .ok (.getfield 29, 3) := by decide +kernel
theorem dX4_wait0_38 : decode cX4_wait0 38 = .ok (.iload_n 1, 1) := by decide +kernel
theorem dX4_wait0_39 : decode cX4_wait0 39 = .ok (.aload_n 0, 1) := by decide +kernel
theorem dX4_wait0_40 : decode cX4_wait0 40 = .ok (.getfield 26, 3) := by decide +kernel
theorem dX4_wait0_43 : decode cX4_wait0 43 = .ok (.iload_n 1, 1) := by decide +kernel
theorem dX4_wait0_44 : decode cX4_wait0 44 = .ok (.iaload, 1) := by decide +kernel
theorem dX4_wait0_45 : decode cX4_wait0 45 = .ok (.aload_n 0, 1) := by decide +kernel
theorem dX4_wait0_46 : decode cX4_wait0 46 = .ok (.getfield 29, 3) := by decide +kernel
theorem dX4_wait0_49 : decode cX4_wait0 49 = .ok (.iload_n 1, 1) := by decide +kernel
theorem dX4_wait0_50 : decode cX4_wait0 50 = .ok (.iaload, 1) := by decide +kernel
theorem dX4_wait0_51 : decode cX4_wait0 51 = .ok (.if_icmp .le 12, 3) := by decide +kernel
theorem dX4_wait0_54 : decode cX4_wait0 54 = .ok (.aload_n 0, 1) := by decide +kernel
theorem dX4_wait0_55 : decode cX4_wait0 55 = .ok (.getfield 26, 3) := by decide +kernel
theorem dX4_wait0_58 : decode cX4_wait0 58 = .ok (.iload_n 1, 1) := by decide +kernel
theorem dX4_wait0_59 : decode cX4_wait0 59 = .ok (.iaload, 1) := by decide +kernel
theorem dX4_wait0_60 : decode cX4_wait0 60 = .ok (.goto 9, 3) := by decide +kernel
theorem dX4_wait0_63 : decode cX4_wait0 63 = .ok (.aload_n 0, 1) := by decide +kernel
theorem dX4_wait0_64 : decode cX4_wait0 64 = .ok (.getfield 29, 3) := by decide +kernel
theorem dX4_wait0_67 : decode cX4_wait0 67 = .ok (.iload_n 1, 1) := by decide +kernel
theorem dX4_wait0_68 : decode cX4_wait0 68 = .ok (.iaload, 1) := by decide +kernel
theorem dX4_wait0_69 : decode cX4_wait0 69 = .ok (.iastore, 1) := by decide +kernel
theorem dX4_wait0_70 : decode cX4_wait0 70 = .ok (.iinc 1 1, 3) := by decide +kernel
theorem dX4_wait0_73 : decode cX4_wait0 73 = .ok (.goto (-71), 3) := by decide +kernel
theorem dX4_wait0_76 : decode cX4_wait0 76 = .ok (.return_, 1) := by decide +kernel
theorem dX4_goDark_0 : decode cX4_goDark 0 = .ok (.aload_n 0, 1) := by decide +kernel
theorem dX4_goDark_1 : decode cX4_goDark 1 = .ok (.getfield 41, 3) := by decide +kernel
theorem dX4_goDark_4 : decode cX4_goDark 4 = .ok (.iload_n 1, 1) := by decide +kernel
theorem dX4_goDark_5 : decode cX4_goDark 5 = .ok (.iconst (-1), 1) := by decide +kernel
theorem dX4_goDark_6 : decode cX4_goDark 6 = .ok (.iastore, 1) := by decide +kernel
theorem dX4_goDark_7 : decode cX4_goDark 7 = .ok (.aload_n 0, 1) := by decide +kernel
theorem dX4_goDark_8 : decode cX4_goDark 8 = .ok (.getfield 47, 3) := by decide +kernel
theorem dX4_goDark_11 : decode cX4_goDark 11 = .ok (.iload_n 1, 1) := by decide +kernel
theorem dX4_goDark_12 : decode cX4_goDark 12 = .ok (.iconst 0, 1) := by decide +kernel
theorem dX4_goDark_13 : decode cX4_goDark 13 = .ok (.iastore, 1) := by decide +kernel
theorem dX4_goDark_14 : decode cX4_goDark 14 = .ok (.aload_n 0, 1) := by decide +kernel
theorem dX4_goDark_15 : decode cX4_goDark 15 = .ok (.getfield 50, 3) := by decide +kernel
theorem dX4_goDark_18 : decode cX4_goDark 18 = .ok (.iload_n 1, 1) := by decide +kernel
theorem dX4_goDark_19 : decode cX4_goDark 19 = .ok (.iconst 0, 1) := by decide +kernel
theorem dX4_goDark_20 : decode cX4_goDark 20 = .ok (.iastore, 1) := by decide +kernel
theorem dX4_goDark_21 : decode cX4_goDark 21 = .ok (.aload_n 0, 1) := by decide +kernel
theorem dX4_goDark_22 : decode cX4_goDark 22 = .ok (.getfield 59, 3) := by decide +kernel
theorem dX4_goDark_25 : decode cX4_goDark 25 = .ok (.iload_n 1, 1) := by decide +kernel
theorem dX4_goDark_26 : decode cX4_goDark 26 = .ok (.iconst 0, 1) := by decide +kernel
theorem dX4_goDark_27 : decode cX4_goDark 27 = .ok (.iastore, 1) := by decide +kernel
theorem dX4_goDark_28 : decode cX4_goDark 28 = .ok (.aload_n 0, 1) := by decide +kernel
theorem dX4_goDark_29 : decode cX4_goDark 29 = .ok (.getfield 62, 3) := by decide +kernel
theorem dX4_goDark_32 : decode cX4_goDark 32 = .ok (.iload_n 1, 1) := by decide +kernel
theorem dX4_goDark_33 : decode cX4_goDark 33 = .ok (.iconst 0, 1) := by decide +kernel
theorem dX4_goDark_34 : decode cX4_goDark 34 = .ok (.iastore, 1) := by decide +kernel
theorem dX4_goDark_35 : decode cX4_goDark 35 = .ok (.return_, 1) := by decide +kernel
theorem dX4_ageRing_0 : decode cX4_ageRing 0 = .ok (.aload_n 0, 1) := by decide +kernel
theorem dX4_ageRing_1 : decode cX4_ageRing 1 = .ok (.getfield 41, 3) := by decide +kernel
theorem dX4_ageRing_4 : decode cX4_ageRing 4 = .ok (.iload_n 1, 1) := by decide +kernel
theorem dX4_ageRing_5 : decode cX4_ageRing 5 = .ok (.iaload, 1) := by decide +kernel
theorem dX4_ageRing_6 : decode cX4_ageRing 6 = .ok (.istore_n 2, 1) := by decide +kernel
theorem dX4_ageRing_7 : decode cX4_ageRing 7 = .ok (.aload_n 0, 1) := by decide +kernel
theorem dX4_ageRing_8 : decode cX4_ageRing 8 = .ok (.getfield 47, 3) := by decide +kernel
theorem dX4_ageRing_11 : decode cX4_ageRing 11 = .ok (.iload_n 1, 1) := by decide +kernel
theorem dX4_ageRing_12 : decode cX4_ageRing 12 = .ok (.iaload, 1) := by decide +kernel
theorem dX4_ageRing_13 : decode cX4_ageRing 13 = .ok (.ifCond .ne 4, 3) := by decide +kernel
theorem dX4_ageRing_16 : decode cX4_ageRing 16 = .ok (.return_, 1) := by decide +kernel
theorem dX4_ageRing_17 : decode cX4_ageRing 17 = .ok (.aload_n 0, 1) := by decide +kernel
theorem dX4_ageRing_18 : decode cX4_ageRing 18 = .ok (.getfield 50, 3) := by decide +kernel
theorem dX4_ageRing_21 : decode cX4_ageRing 21 = .ok (.iload_n 1, 1) := by decide +kernel
theorem dX4_ageRing_22 : decode cX4_ageRing 22 = .ok (.dup2, 1) := by decide +kernel
theorem dX4_ageRing_23 : decode cX4_ageRing 23 = .ok (.iaload, 1) := by decide +kernel
theorem dX4_ageRing_24 : decode cX4_ageRing 24 = .ok (.iconst 1, 1) := by decide +kernel
theorem dX4_ageRing_25 : decode cX4_ageRing 25 = .ok (.iadd, 1) := by decide +kernel
theorem dX4_ageRing_26 : decode cX4_ageRing 26 = .ok (.iastore, 1) := by decide +kernel
theorem dX4_ageRing_27 : decode cX4_ageRing 27 = .ok (.aload_n 0, 1) := by decide +kernel
end
section
theorem dX4_ageRing_28 : decode cX4_ageRing 28 = .ok (.getfield 47, 3) := by decide +kernel
theorem dX4_ageRing_31 : decode cX4_ageRing 31 = .ok (.iload_n 1, 1) := by decide +kernel
theorem dX4_ageRing_32 : decode cX4_ageRing 32 = .ok (.iaload, 1) := by decide +kernel
theorem dX4_ageRing_33 : decode cX4_ageRing 33 = .ok (.iconst 1, 1) := by decide +kernel
theorem dX4_ageRing_34 : decode cX4_ageRing 34 = .ok (.if_icmp .ne 164, 3) := by decide +kernel
theorem dX4_ageRing_37 : decode cX4_ageRing 37 = .ok (.iconst 0, 1) := by decide +kernel
theorem dX4_ageRing_38 : decode cX4_ageRing 38 = .ok (.istore_n 3, 1) := by decide +kernel
theorem dX4_ageRing_39 : decode cX4_ageRing 39 = .ok (.iconst 0, 1) := by decide +kernel
theorem dX4_ageRing_40 : decode cX4_ageRing 40 = .ok (.istore 4, 2) := by decide +kernel
theorem dX4_ageRing_42 : decode cX4_ageRing 42 = .ok (.iload 4, 2) := by decide +kernel
theorem dX4_ageRing_44 : decode cX4_ageRing 44 = .ok (.bipush 8, 2) := by decide +kernel
theorem dX4_ageRing_46 : decode cX4_ageRing 46 = .ok (.if_icmp .ge 34, 3) := by decide +kernel
theorem dX4_ageRing_49 : decode cX4_ageRing 49 = .ok (.iload_n 3, 1) := by decide +kernel
theorem dX4_ageRing_50 : decode cX4_ageRing 50 = .ok (.ifCond .ne 18, 3) := by decide +kernel
theorem dX4_ageRing_53 : decode cX4_ageRing 53 = .ok (.iload 4, 2) := by decide +kernel
theorem dX4_ageRing_55 : decode cX4_ageRing 55 = .ok (.iload_n 2, 1) := by decide +kernel
theorem dX4_ageRing_56 : decode cX4_ageRing 56 = .ok (.if_icmp .eq 16, 3) := by decide +kernel
theorem dX4_ageRing_59 : decode cX4_ageRing 59 = .ok (.aload_n 0, 1) := by decide +kernel
theorem dX4_ageRing_60 : decode cX4_ageRing 60 = .ok (.iload 4, 2) := by decide +kernel
theorem dX4_ageRing_62 : decode cX4_ageRing 62 = .ok (.invokevirtual 100, 3) := by decide +kernel
theorem dX4_ageRing_65 : decode cX4_ageRing 65 = .ok (.ifCond .eq 7, 3) := by decide +kernel
theorem dX4_ageRing_68 : decode cX4_ageRing 68 = .ok (.iconst 1, 1) := by decide +kernel
theorem dX4_ageRing_69 : decode cX4_ageRing 69 = .ok (.goto 4, 3) := by decide +kernel
theorem dX4_ageRing_72 : decode cX4_ageRing 72 = .ok (.iconst 0, 1) := by decide +kernel
theorem dX4_ageRing_73 : decode cX4_ageRing 73 = .ok (.istore_n 3, 1) := by decide +kernel
theorem dX4_ageRing_74 : decode cX4_ageRing 74 = .ok (.iinc 4 1, 3) := by decide +kernel
theorem dX4_ageRing_77 : decode cX4_ageRing 77 = .ok (.goto (-35), 3) := by decide +kernel
theorem dX4_ageRing_80 : decode cX4_ageRing 80 = .ok (.aload_n 0, 1) := by decide +kernel
theorem dX4_ageRing_81 : decode cX4_ageRing 81 = .ok (.getfield 53, 3) := by decide +kernel
theorem dX4_ageRing_84 : decode cX4_ageRing 84 = .ok (.iload_n 1, 1) := by decide +kernel
theorem dX4_ageRing_85 : decode cX4_ageRing 85 = .ok (.aload_n 0, 1) := by decide +kernel
theorem dX4_ageRing_86 : decode cX4_ageRing 86 = .ok (.getfield 16, 3) := by decide +kernel
theorem dX4_ageRing_89 : decode cX4_ageRing 89 = .ok (.iload_n 2, 1) := by decide +kernel
theorem dX4_ageRing_90 : decode cX4_ageRing 90 = .ok (.baload, 1) := by decide +kernel
theorem dX4_ageRing_91 : decode cX4_ageRing 91 = .ok (.ifCond .ne 13, 3) := by decide +kernel
theorem dX4_ageRing_94 : decode cX4_ageRing 94 = .ok (.aload_n 0, 1) := by decide +kernel
theorem dX4_ageRing_95 : decode cX4_ageRing 95 = .ok (.iload_n 2, 1) := by decide +kernel
theorem dX4_ageRing_96 : decode cX4_ageRing 96 = .ok (.bipush 8, 2) := by decide +kernel
theorem dX4_ageRing_98 : decode cX4_ageRing 98 = .ok (.invokevirtual 75, 3) := by decide +kernel
theorem dX4_ageRing_101 : decode cX4_ageRing 101 = .ok (.ifCond .eq 12, 3) := by decide +kernel
theorem dX4_ageRing_104 : decode cX4_ageRing 104 = .ok (.aload_n 0, 1) := by decide +kernel
theorem dX4_ageRing_105 : decode cX4_ageRing 105 = .ok (.iload_n 2, 1) := by decide +kernel
theorem dX4_ageRing_106 : decode cX4_ageRing 106 = .ok (.iconst 1, 1) := by decide +kernel
theorem dX4_ageRing_107 : decode cX4_ageRing 107 = .ok (.invokevirtual 103, 3) := by decide +kernel
theorem dX4_ageRing_110 : decode cX4_ageRing 110 = .ok (.goto 24, 3) := by decide +kernel
theorem dX4_ageRing_113 : decode cX4_ageRing 113 = .ok (.aload_n 0, 1) := by decide +kernel
theorem dX4_ageRing_114 : decode cX4_ageRing 114 = .ok (.getfield 53, 3) := by decide +kernel
theorem dX4_ageRing_117 : decode cX4_ageRing 117 = .ok (.iload_n 1, 1) := by decide +kernel
theorem dX4_ageRing_118 : decode cX4_ageRing 118 = .ok (.iaload, 1) := by decide +kernel
theorem dX4_ageRing_119 : decode cX4_ageRing 119 = .ok (.ifCond .le 14, 3) := by decide +kernel
theorem dX4_ageRing_122 : decode cX4_ageRing 122 = .ok (.aload_n 0, 1) := by decide +kernel
theorem dX4_ageRing_123 : decode cX4_ageRing 123 = .ok (.getfield 53, 3) := by decide +kernel
theorem dX4_ageRing_126 : decode cX4_ageRing 126 = .ok (.iload_n 1, 1) := by decide +kernel
theorem dX4_ageRing_127 : decode cX4_ageRing 127 = .ok (.iaload, 1) := by decide +kernel
theorem dX4_ageRing_128 : decode cX4_ageRing 128 = .ok (.iconst 1, 1) := by decide +kernel
theorem dX4_ageRing_129 : decode cX4_ageRing 129 = .ok (.isub, 1) := by decide +kernel
theorem dX4_ageRing_130 : decode cX4_ageRing 130 = .ok (.goto 4, 3) := by decide +kernel
theorem dX4_ageRing_133 : decode cX4_ageRing 133 = .ok (.iconst 0, 1) := by decide +kernel
theorem dX4_ageRing_134 : decode cX4_ageRing 134 = .ok (.iastore, 1) := by decide +kernel
theorem dX4_ageRing_135 : decode cX4_ageRing 135 = .ok (.aload_n 0, 1) := by decide +kernel
theorem dX4_ageRing_136 : decode cX4_ageRing 136 = .ok (.getfield 56, 3) := by decide +kernel
theorem dX4_ageRing_139 : decode cX4_ageRing 139 = .ok (.iload_n 1, 1) := by decide +kernel
theorem dX4_ageRing_140 : decode cX4_ageRing 140 = .ok (.iload_n 3, 1) := by decide +kernel
theorem dX4_ageRing_141 : decode cX4_ageRing 141 = .ok (.ifCond .eq 14, 3) := by decide +kernel
theorem dX4_ageRing_144 : decode cX4_ageRing 144 = .ok (.aload_n 0, 1) := by decide +kernel
theorem dX4_ageRing_145 : decode cX4_ageRing 145 = .ok (.getfield 56, 3) := by decide +kernel
theorem dX4_ageRing_148 : decode cX4_ageRing 148 = .ok (.iload_n 1, 1) := by decide +kernel
theorem dX4_ageRing_149 : decode cX4_ageRing 149 = .ok (.iaload, 1) := by decide +kernel
theorem dX4_ageRing_150 : decode cX4_ageRing 150 = .ok (.iconst 1, 1) := by decide +kernel
theorem dX4_ageRing_151 : decode cX4_ageRing 151 = .ok (.iadd, 1) := by decide +kernel
theorem dX4_ageRing_152 : decode cX4_ageRing 152 = .ok (.goto 4, 3) := by decide +kernel
theorem dX4_ageRing_155 : decode cX4_ageRing 155 = .ok (.iconst 0, 1) := by decide +kernel
theorem dX4_ageRing_156 : decode cX4_ageRing 156 = .ok (.iastore, 1) := by decide +kernel
theorem dX4_ageRing_157 : decode cX4_ageRing 157 = .ok (.aload_n 0, 1) := by decide +kernel
theorem dX4_ageRing_158 : decode cX4_ageRing 158 = .ok (.getfield 59, 3) := by decide +kernel
theorem dX4_ageRing_161 : decode cX4_ageRing 161 = .ok (.iload_n 1, 1) := by decide +kernel
theorem dX4_ageRing_162 : decode cX4_ageRing 162 = .ok (.iaload, 1) := by decide +kernel
theorem dX4_ageRing_163 : decode cX4_ageRing 163 = .ok (.ifCond .le 16, 3) := by decide +kernel
theorem dX4_ageRing_166 : decode cX4_ageRing 166 = .ok (.aload_n 0, 1) := by decide +kernel
theorem dX4_ageRing_167 : decode cX4_ageRing 167 = .ok (.getfield 59, 3) := by decide +kernel
theorem dX4_ageRing_170 : decode cX4_ageRing 170 = .ok (.iload_n 1, 1) := by decide +kernel
theorem dX4_ageRing_171 : decode cX4_ageRing 171 = .ok (.dup2, 1) := by decide +kernel
theorem dX4_ageRing_172 : decode cX4_ageRing 172 = .ok (.iaload, 1) := by decide +kernel
theorem dX4_ageRing_173 : decode cX4_ageRing 173 = .ok (.iconst 1, 1) := by decide +kernel
theorem dX4_ageRing_174 : decode cX4_ageRing 174 = .ok (.isub, 1) := by decide +kernel
theorem dX4_ageRing_175 : decode cX4_ageRing 175 = .ok (.iastore, 1) := by decide +kernel
theorem dX4_ageRing_176 : decode cX4_ageRing 176 = .ok (.goto 22, 3) := by decide +kernel
theorem dX4_ageRing_179 : decode cX4_ageRing 179 = .ok (.aload_n 0, 1) := by decide +kernel
theorem dX4_ageRing_180 : decode cX4_ageRing 180 = .ok (.getfield 62, 3) := by decide +kernel
theorem dX4_ageRing_183 : decode cX4_ageRing 183 = .ok (.iload_n 1, 1) := by decide +kernel
theorem dX4_ageRing_184 : decode cX4_ageRing 184 = .ok (.iaload, 1) := by decide +kernel
theorem dX4_ageRing_185 : decode cX4_ageRing 185 = .ok (.ifCond .le 13, 3) := by decide +kernel
theorem dX4_ageRing_188 : decode cX4_ageRing 188 = .ok (.aload_n 0, 1) := by decide +kernel
theorem dX4_ageRing_189 : decode cX4_ageRing 189 = .ok (.getfield 62, 3) := by decide +kernel
theorem dX4_ageRing_192 : decode cX4_ageRing 192 = .ok (.iload_n 1, 1) := by decide +kernel
theorem dX4_ageRing_193 : decode cX4_ageRing 193 = .ok (.dup2, 1) := by decide +kernel
theorem dX4_ageRing_194 : decode cX4_ageRing 194 = .ok (.iaload, 1) := by decide +kernel
theorem dX4_ageRing_195 : decode cX4_ageRing 195 = .ok (.iconst 1, 1) := by decide +kernel
theorem dX4_ageRing_196 : decode cX4_ageRing 196 = .ok (.isub, 1) := by decide +kernel
theorem dX4_ageRing_197 : decode cX4_ageRing 197 = .ok (.iastore, 1) := by decide +kernel
theorem dX4_ageRing_198 : decode cX4_ageRing 198 = .ok (.aload_n 0, 1) := by decide +kernel
theorem dX4_ageRing_199 : decode cX4_ageRing 199 = .ok (.getfield 47, 3) := by decide +kernel
theorem dX4_ageRing_202 : decode cX4_ageRing 202 = .ok (.iload_n 1, 1) := by decide +kernel
theorem dX4_ageRing_203 : decode cX4_ageRing 203 = .ok (.iaload, 1) := by decide +kernel
theorem dX4_ageRing_204 : decode cX4_ageRing 204 = .ok (.iconst 2, 1) := by decide +kernel
theorem dX4_ageRing_205 : decode cX4_ageRing 205 = .ok (.if_icmp .ne 32, 3) := by decide +kernel
theorem dX4_ageRing_208 : decode cX4_ageRing 208 = .ok (.aload_n 0, 1) := by decide +kernel
theorem dX4_ageRing_209 : decode cX4_ageRing 209 = .ok (.getfield 50, 3) := by decide +kernel
theorem dX4_ageRing_212 : decode cX4_ageRing 212 = .ok (.iload_n 1, 1) := by decide +kernel
theorem dX4_ageRing_213 : decode cX4_ageRing 213 = .ok (.iaload, 1) := by decide +kernel
theorem dX4_ageRing_214 : decode cX4_ageRing 214 = .ok (.aload_n 0, 1) := by decide +kernel
theorem dX4_ageRing_215 : decode cX4_ageRing 215 = .ok (.iload_n 2, 1) := by decide +kernel
theorem dX4_ageRing_216 : decode cX4_ageRing 216 = .ok (.iconst 3, 1) := by decide +kernel
theorem dX4_ageRing_217 : decode cX4_ageRing 217 = .ok (.invokevirtual 103, 3) := by decide +kernel
theorem dX4_ageRing_220 : decode cX4_ageRing 220 = .ok (.if_icmp .lt 17, 3) := by decide +kernel
theorem dX4_ageRing_223 : decode cX4_ageRing 223 = .ok (.aload_n 0, 1) := by decide +kernel
theorem dX4_ageRing_224 : decode cX4_ageRing 224 = .ok (.getfield 47, 3) := by decide +kernel
theorem dX4_ageRing_227 : decode cX4_ageRing 227 = .ok (.iload_n 1, 1) := by decide +kernel
theorem dX4_ageRing_228 : decode cX4_ageRing 228 = .ok (.iconst 3, 1) := by decide +kernel
theorem dX4_ageRing_229 : decode cX4_ageRing 229 = .ok (.iastore, 1) := by decide +kernel
theorem dX4_ageRing_230 : decode cX4_ageRing 230 = .ok (.aload_n 0, 1) := by decide +kernel
theorem dX4_ageRing_231 : decode cX4_ageRing 231 = .ok (.getfield 50, 3) := by decide +kernel
theorem dX4_ageRing_234 : decode cX4_ageRing 234 = .ok (.iload_n 1, 1) := by decide +kernel
theorem dX4_ageRing_235 : decode cX4_ageRing 235 = .ok (.iconst 0, 1) := by decide +kernel
theorem dX4_ageRing_236 : decode cX4_ageRing 236 = .ok (.iastore, 1) := by decide +kernel
theorem dX4_ageRing_237 : decode cX4_ageRing 237 = .ok (.aload_n 0, 1) := by decide +kernel
theorem dX4_ageRing_238 : decode cX4_ageRing 238 = .ok (.getfield 47, 3) := by decide +kernel
theorem dX4_ageRing_241 : decode cX4_ageRing 241 = .ok (.iload_n 1, 1) := by decide +kernel
theorem dX4_ageRing_242 : decode cX4_ageRing 242 = .ok (.iaload, 1) := by decide +kernel
theorem dX4_ageRing_243 : decode cX4_ageRing 243 = .ok (.iconst 3, 1) := by decide +kernel
theorem dX4_ageRing_244 : decode cX4_ageRing 244 = .ok (.if_icmp .ne 23, 3) := by decide +kernel
theorem dX4_ageRing_247 : decode cX4_ageRing 247 = .ok (.aload_n 0, 1) := by decide +kernel
theorem dX4_ageRing_248 : decode cX4_ageRing 248 = .ok (.getfield 50, 3) := by decide +kernel
theorem dX4_ageRing_251 : decode cX4_ageRing 251 = .ok (.iload_n 1, 1) := by decide +kernel
theorem dX4_ageRing_252 : decode cX4_ageRing 252 = .ok (.iaload, 1) := by decide +kernel
theorem dX4_ageRing_253 : decode cX4_ageRing 253 = .ok (.aload_n 0, 1) := by decide +kernel
theorem dX4_ageRing_254 : decode cX4_ageRing 254 = .ok (.iload_n 2, 1) := by decide +kernel
theorem dX4_ageRing_255 : decode cX4_ageRing 255 = .ok (.iconst 4, 1) := by decide +kernel
theorem dX4_ageRing_256 : decode cX4_ageRing 256 = .ok (.invokevirtual 103, 3) := by decide +kernel
theorem dX4_ageRing_259 : decode cX4_ageRing 259 = .ok (.if_icmp .lt 8, 3) := by decide +kernel
theorem dX4_ageRing_262 : decode cX4_ageRing 262 = .ok (.aload_n 0, 1) := by decide +kernel
theorem dX4_ageRing_263 : decode cX4_ageRing 263 = .ok (.iload_n 1, 1) := by decide +kernel
theorem dX4_ageRing_264 : decode cX4_ageRing 264 = .ok (.invokevirtual 106, 3) := by decide +kernel
theorem dX4_ageRing_267 : decode cX4_ageRing 267 = .ok (.return_, 1) := by decide +kernel
theorem dX4_mayEnd_0 : decode cX4_mayEnd 0 = .ok (.aload_n 0, 1) := by decide +kernel
theorem dX4_mayEnd_1 : decode cX4_mayEnd 1 = .ok (.getfield 41, 3) := by decide +kernel
theorem dX4_mayEnd_4 : decode cX4_mayEnd 4 = .ok (.iload_n 1, 1) := by decide +kernel
theorem dX4_mayEnd_5 : decode cX4_mayEnd 5 = .ok (.iaload, 1) := by decide +kernel
theorem dX4_mayEnd_6 : decode cX4_mayEnd 6 = .ok (.istore_n 2, 1) := by decide +kernel
theorem dX4_mayEnd_7 : decode cX4_mayEnd 7 = .ok (.aload_n 0, 1) := by decide +kernel
theorem dX4_mayEnd_8 : decode cX4_mayEnd 8 = .ok (.getfield 47, 3) := by decide +kernel
theorem dX4_mayEnd_11 : decode cX4_mayEnd 11 = .ok (.iload_n 1, 1) := by decide +kernel
theorem dX4_mayEnd_12 : decode cX4_mayEnd 12 = .ok (.iaload, 1) := by decide +kernel
theorem dX4_mayEnd_13 : decode cX4_mayEnd 13 = .ok (.iconst 1, 1) := by decide +kernel
theorem dX4_mayEnd_14 : decode cX4_mayEnd 14 = .ok (.if_icmp .ne 62, 3) := by decide +kernel
theorem dX4_mayEnd_17 : decode cX4_mayEnd 17 = .ok (.aload_n 0, 1) := by decide +kernel
theorem dX4_mayEnd_18 : decode cX4_mayEnd 18 = .ok (.getfield 50, 3) := by decide +kernel
theorem dX4_mayEnd_21 : decode cX4_mayEnd 21 = .ok (.iload_n 1, 1) := by decide +kernel
theorem dX4_mayEnd_22 : decode cX4_mayEnd 22 = .ok (.iaload, 1) := by decide +kernel
theorem dX4_mayEnd_23 : decode cX4_mayEnd 23 = .ok (.aload_n 0, 1) := by decide +kernel
theorem dX4_mayEnd_24 : decode cX4_mayEnd 24 = .ok (.iload_n 2, 1) := by decide +kernel
theorem dX4_mayEnd_25 : decode cX4_mayEnd 25 = .ok (.iconst 0, 1) := by decide +kernel
theorem dX4_mayEnd_26 : decode cX4_mayEnd 26 = .ok (.invokevirtual 103, 3) := by decide +kernel
theorem dX4_mayEnd_29 : decode cX4_mayEnd 29 = .ok (.if_icmp .lt 47, 3) := by decide +kernel
theorem dX4_mayEnd_32 : decode cX4_mayEnd 32 = .ok (.aload_n 0, 1) := by decide +kernel
theorem dX4_mayEnd_33 : decode cX4_mayEnd 33 = .ok (.getfield 59, 3) := by decide +kernel
theorem dX4_mayEnd_36 : decode cX4_mayEnd 36 = .ok (.iload_n 1, 1) := by decide +kernel
theorem dX4_mayEnd_37 : decode cX4_mayEnd 37 = .ok (.iaload, 1) := by decide +kernel
theorem dX4_mayEnd_38 : decode cX4_mayEnd 38 = .ok (.aload_n 0, 1) := by decide +kernel
theorem dX4_mayEnd_39 : decode cX4_mayEnd 39 = .ok (.getfield 62, 3) := by decide +kernel
theorem dX4_mayEnd_42 : decode cX4_mayEnd 42 = .ok (.iload_n 1, 1) := by decide +kernel
theorem dX4_mayEnd_43 : decode cX4_mayEnd 43 = .ok (.iaload, 1) := by decide +kernel
theorem dX4_mayEnd_44 : decode cX4_mayEnd 44 = .ok (.iadd, 1) := by decide +kernel
theorem dX4_mayEnd_45 : decode cX4_mayEnd 45 = .ok (.ifCond .ne 31, 3) := by decide +kernel
theorem dX4_mayEnd_48 : decode cX4_mayEnd 48 = .ok (.aload_n 0, 1) := by decide +kernel
theorem dX4_mayEnd_49 : decode cX4_mayEnd 49 = .ok (.getfield 53, 3) := by decide +kernel
theorem dX4_mayEnd_52 : decode cX4_mayEnd 52 = .ok (.iload_n 1, 1) := by decide +kernel
theorem dX4_mayEnd_53 : decode cX4_mayEnd 53 = .ok (.iaload, 1) := by decide +kernel
theorem dX4_mayEnd_54 : decode cX4_mayEnd 54 = .ok (.ifCond .eq 18, 3) := by decide +kernel
theorem dX4_mayEnd_57 : decode cX4_mayEnd 57 = .ok (.aload_n 0, 1) := by decide +kernel
theorem dX4_mayEnd_58 : decode cX4_mayEnd 58 = .ok (.getfield 56, 3) := by decide +kernel
theorem dX4_mayEnd_61 : decode cX4_mayEnd 61 = .ok (.iload_n 1, 1) := by decide +kernel
theorem dX4_mayEnd_62 : decode cX4_mayEnd 62 = .ok (.iaload, 1) := by decide +kernel
theorem dX4_mayEnd_63 : decode cX4_mayEnd 63 = .ok (.aload_n 0, 1) := by decide +kernel
theorem dX4_mayEnd_64 : decode cX4_mayEnd 64 = .ok (.iload_n 2, 1) := by decide +kernel
theorem dX4_mayEnd_65 : decode cX4_mayEnd 65 = .ok (.iconst 2, 1) := by decide +kernel
theorem dX4_mayEnd_66 : decode cX4_mayEnd 66 = .ok (.invokevirtual 103, 3) := by decide +kernel
theorem dX4_mayEnd_69 : decode cX4_mayEnd 69 = .ok (.if_icmp .lt 7, 3) := by decide +kernel
theorem dX4_mayEnd_72 : decode cX4_mayEnd 72 = .ok (.iconst 1, 1) := by decide +kernel
theorem dX4_mayEnd_73 : decode cX4_mayEnd 73 = .ok (.goto 4, 3) := by decide +kernel
theorem dX4_mayEnd_76 : decode cX4_mayEnd 76 = .ok (.iconst 0, 1) := by decide +kernel
theorem dX4_mayEnd_77 : decode cX4_mayEnd 77 = .ok (.ireturn, 1) := by decide +kernel
theorem dX4_goYellow_0 : decode cX4_goYellow 0 = .ok (.aload_n 0, 1) := by decide +kernel
theorem dX4_goYellow_1 : decode cX4_goYellow 1 = .ok (.getfield 47, 3) := by decide +kernel
theorem dX4_goYellow_4 : decode cX4_goYellow 4 = .ok (.iload_n 1, 1) := by decide +kernel
theorem dX4_goYellow_5 : decode cX4_goYellow 5 = .ok (.iconst 2, 1) := by decide +kernel
theorem dX4_goYellow_6 : decode cX4_goYellow 6 = .ok (.iastore, 1) := by decide +kernel
theorem dX4_goYellow_7 : decode cX4_goYellow 7 = .ok (.aload_n 0, 1) := by decide +kernel
theorem dX4_goYellow_8 : decode cX4_goYellow 8 = .ok (.getfield 50, 3) := by decide +kernel
theorem dX4_goYellow_11 : decode cX4_goYellow 11 = .ok (.iload_n 1, 1) := by decide +kernel
theorem dX4_goYellow_12 : decode cX4_goYellow 12 = .ok (.iconst 0, 1) := by decide +kernel
theorem dX4_goYellow_13 : decode cX4_goYellow 13 = .ok (.iastore, 1) := by decide +kernel
theorem dX4_goYellow_14 : decode cX4_goYellow 14 = .ok (.return_, 1) := by decide +kernel
theorem dX4_goOn_0 : decode cX4_goOn 0 = .ok (.aload_n 0, 1) := by decide +kernel
theorem dX4_goOn_1 : decode cX4_goOn 1 = .ok (.iload_n 1, 1) := by decide +kernel
theorem dX4_goOn_2 : decode cX4_goOn 2 = .ok (.invokevirtual 110, 3) := by decide +kernel
theorem dX4_goOn_5 : decode cX4_goOn 5 = .ok (.ifCond .eq 60, 3) := by decide +kernel
theorem dX4_goOn_8 : decode cX4_goOn 8 = .ok (.aload_n 0, 1) := by decide +kernel
theorem dX4_goOn_9 : decode cX4_goOn 9 = .ok (.getfield 41, 3) := by decide +kernel
theorem dX4_goOn_12 : decode cX4_goOn 12 = .ok (.iload_n 1, 1) := by decide +kernel
theorem dX4_goOn_13 : decode cX4_goOn 13 = .ok (.iaload, 1) := by decide +kernel
theorem dX4_goOn_14 : decode cX4_goOn 14 = .ok (.aload_n 0, 1) := by decide +kernel
theorem dX4_goOn_15 : decode cX4_goOn 15 = .ok (.iload_n 1, 1) := by decide +kernel
theorem dX4_goOn_16 : decode cX4_goOn 16 = .ok (.aload_n 0, 1) := by decide +kernel
theorem dX4_goOn_17 : decode cX4_goOn 17 = .ok (.getfield 113, 3) := by decide +kernel
theorem dX4_goOn_20 : decode cX4_goOn 20 = .ok (.invokevirtual 93, 3) := by decide +kernel
theorem dX4_goOn_23 : decode cX4_goOn 23 = .ok (.if_icmp .ne 82, 3) := by decide +kernel
theorem dX4_goOn_26 : decode cX4_goOn 26 = .ok (.aload_n 0, 1) := by decide +kernel
theorem dX4_goOn_27 : decode cX4_goOn 27 = .ok (.aload_n 0, 1) := by decide +kernel
theorem dX4_goOn_28 : decode cX4_goOn 28 = .ok (.iload_n 1, 1) := by decide +kernel
theorem dX4_goOn_29 : decode cX4_goOn 29 = .ok (.aload_n 0, 1) := by decide +kernel
theorem dX4_goOn_30 : decode cX4_goOn 30 = .ok (.getfield 113, 3) := by decide +kernel
theorem dX4_goOn_33 : decode cX4_goOn 33 = .ok (.invokevirtual 97, 3) := by decide +kernel
theorem dX4_goOn_36 : decode cX4_goOn 36 = .ok (.invokevirtual 100, 3) := by decide +kernel
theorem dX4_goOn_39 : decode cX4_goOn 39 = .ok (.ifCond .eq 66, 3) := by decide +kernel
theorem dX4_goOn_42 : decode cX4_goOn 42 = .ok (.aload_n 0, 1) := by decide +kernel
theorem dX4_goOn_43 : decode cX4_goOn 43 = .ok (.getfield 44, 3) := by decide +kernel
theorem dX4_goOn_46 : decode cX4_goOn 46 = .ok (.iload_n 1, 1) := by decide +kernel
theorem dX4_goOn_47 : decode cX4_goOn 47 = .ok (.aload_n 0, 1) := by decide +kernel
theorem dX4_goOn_48 : decode cX4_goOn 48 = .ok (.iload_n 1, 1) := by decide +kernel
theorem dX4_goOn_49 : decode cX4_goOn 49 = .ok (.aload_n 0, 1) := by decide +kernel
theorem dX4_goOn_50 : decode cX4_goOn 50 = .ok (.getfield 113, 3) := by decide +kernel
theorem dX4_goOn_53 : decode cX4_goOn 53 = .ok (.invokevirtual 97, 3) := by decide +kernel
theorem dX4_goOn_56 : decode cX4_goOn 56 = .ok (.iastore, 1) := by decide +kernel
theorem dX4_goOn_57 : decode cX4_goOn 57 = .ok (.aload_n 0, 1) := by decide +kernel
theorem dX4_goOn_58 : decode cX4_goOn 58 = .ok (.iload_n 1, 1) := by decide +kernel
theorem dX4_goOn_59 : decode cX4_goOn 59 = .ok (.invokevirtual 116, 3) := by decide +kernel
theorem dX4_goOn_62 : decode cX4_goOn 62 = .ok (.goto 43, 3) := by decide +kernel
theorem dX4_goOn_65 : decode cX4_goOn 65 = .ok (.aload_n 0, 1) := by decide +kernel
theorem dX4_goOn_66 : decode cX4_goOn 66 = .ok (.getfield 47, 3) := by decide +kernel
theorem dX4_goOn_69 : decode cX4_goOn 69 = .ok (.iload_n 1, 1) := by decide +kernel
theorem dX4_goOn_70 : decode cX4_goOn 70 = .ok (.iaload, 1) := by decide +kernel
theorem dX4_goOn_71 : decode cX4_goOn 71 = .ok (.ifCond .ne 34, 3) := by decide +kernel
theorem dX4_goOn_74 : decode cX4_goOn 74 = .ok (.aload_n 0, 1) := by decide +kernel
theorem dX4_goOn_75 : decode cX4_goOn 75 = .ok (.getfield 44, 3) := by decide +kernel
theorem dX4_goOn_78 : decode cX4_goOn 78 = .ok (.iload_n 1, 1) := by decide +kernel
theorem dX4_goOn_79 : decode cX4_goOn 79 = .ok (.iaload, 1) := by decide +kernel
theorem dX4_goOn_80 : decode cX4_goOn 80 = .ok (.ifCond .ge 25, 3) := by decide +kernel
theorem dX4_goOn_83 : decode cX4_goOn 83 = .ok (.aload_n 0, 1) := by decide +kernel
theorem dX4_goOn_84 : decode cX4_goOn 84 = .ok (.getfield 119, 3) := by decide +kernel
theorem dX4_goOn_87 : decode cX4_goOn 87 = .ok (.ifCond .ne 18, 3) := by decide +kernel
theorem dX4_goOn_90 : decode cX4_goOn 90 = .ok (.aload_n 0, 1) := by decide +kernel
theorem dX4_goOn_91 : decode cX4_goOn 91 = .ok (.getfield 44, 3) := by decide +kernel
theorem dX4_goOn_94 : decode cX4_goOn 94 = .ok (.iload_n 1, 1) := by decide +kernel
theorem dX4_goOn_95 : decode cX4_goOn 95 = .ok (.aload_n 0, 1) := by decide +kernel
theorem dX4_goOn_96 : decode cX4_goOn 96 = .ok (.iload_n 1, 1) := by decide +kernel
theorem dX4_goOn_97 : decode cX4_goOn 97 = .ok (.aload_n 0, 1) := by decide +kernel
theorem dX4_goOn_98 : decode cX4_goOn 98 = .ok (.getfield 113, 3) := by decide +kernel
theorem dX4_goOn_101 : decode cX4_goOn 101 = .ok (.invokevirtual 123, 3) := by decide +kernel
theorem dX4_goOn_104 : decode cX4_goOn 104 = .ok (.iastore, 1) := by decide +kernel
theorem dX4_goOn_105 : decode cX4_goOn 105 = .ok (.return_, 1) := by decide +kernel
theorem dX4_cross_0 : decode cX4_cross 0 = .ok (.aload_n 0, 1) := by decide +kernel
theorem dX4_cross_1 : decode cX4_cross 1 = .ok (.iconst 0, 1) := by decide +kernel
theorem dX4_cross_2 : decode cX4_cross 2 = .ok (.iconst 1, 1) := by decide +kernel
theorem dX4_cross_3 : decode cX4_cross 3 = .ok (.aload_n 0, 1) := by decide +kernel
theorem dX4_cross_4 : decode cX4_cross 4 = .ok (.getfield 113, 3) := by decide +kernel
theorem dX4_cross_7 : decode cX4_cross 7 = .ok (.isub, 1) := by decide +kernel
theorem dX4_cross_8 : decode cX4_cross 8 = .ok (.invokevirtual 123, 3) := by decide +kernel
theorem dX4_cross_11 : decode cX4_cross 11 = .ok (.ifCond .ge 17, 3) := by decide +kernel
theorem dX4_cross_14 : decode cX4_cross 14 = .ok (.aload_n 0, 1) := by decide +kernel
theorem dX4_cross_15 : decode cX4_cross 15 = .ok (.iconst 1, 1) := by decide +kernel
theorem dX4_cross_16 : decode cX4_cross 16 = .ok (.iconst 1, 1) := by decide +kernel
theorem dX4_cross_17 : decode cX4_cross 17 = .ok (.aload_n 0, 1) := by decide +kernel
theorem dX4_cross_18 : decode cX4_cross 18 = .ok (.getfield 113, 3) := by decide +kernel
theorem dX4_cross_21 : decode cX4_cross 21 = .ok (.isub, 1) := by decide +kernel
theorem dX4_cross_22 : decode cX4_cross 22 = .ok (.invokevirtual 123, 3) := by decide +kernel
theorem dX4_cross_25 : decode cX4_cross 25 = .ok (.ifCond .lt 7, 3) := by decide +kernel
theorem dX4_cross_28 : decode cX4_cross 28 = .ok (.iconst 1, 1) := by decide +kernel
theorem dX4_cross_29 : decode cX4_cross 29 = .ok (.goto 4, 3) := by decide +kernel
theorem dX4_cross_32 : decode cX4_cross 32 = .ok (.iconst 0, 1) := by decide +kernel
theorem dX4_cross_33 : decode cX4_cross 33 = .ok (.istore_n 1, 1) := by decide +kernel
theorem dX4_cross_34 : decode cX4_cross 34 = .ok (.iconst 1, 1) := by decide +kernel
theorem dX4_cross_35 : decode cX4_cross 35 = .ok (.istore_n 2, 1) := by decide +kernel
theorem dX4_cross_36 : decode cX4_cross 36 = .ok (.iconst 0, 1) := by decide +kernel
theorem dX4_cross_37 : decode cX4_cross 37 = .ok (.istore_n 3, 1) := by decide +kernel
theorem dX4_cross_38 : decode cX4_cross 38 = .ok (.iload_n 3, 1) := by decide +kernel
theorem dX4_cross_39 : decode cX4_cross 39 = .ok (.iconst 2, 1) := by decide +kernel
theorem dX4_cross_40 : decode cX4_cross 40 = .ok (.if_icmp .ge 111, 3) := by decide +kernel
theorem dX4_cross_43 : decode cX4_cross 43 = .ok (.iload_n 1, 1) := by decide +kernel
theorem dX4_cross_44 : decode cX4_cross 44 = .ok (.ifCond .ne 65, 3) := by decide +kernel
theorem dX4_cross_47 : decode cX4_cross 47 = .ok (.aload_n 0, 1) := by decide +kernel
theorem dX4_cross_48 : decode cX4_cross 48 = .ok (.iload_n 3, 1) := by decide +kernel
theorem dX4_cross_49 : decode cX4_cross 49 = .ok (.invokevirtual 110, 3) := by decide +kernel
theorem dX4_cross_52 : decode cX4_cross 52 = .ok (.ifCond .eq 57, 3) := by decide +kernel
theorem dX4_cross_55 : decode cX4_cross 55 = .ok (.aload_n 0, 1) := by decide +kernel
theorem dX4_cross_56 : decode cX4_cross 56 = .ok (.getfield 41, 3) := by decide +kernel
theorem dX4_cross_59 : decode cX4_cross 59 = .ok (.iload_n 3, 1) := by decide +kernel
theorem dX4_cross_60 : decode cX4_cross 60 = .ok (.iaload, 1) := by decide +kernel
theorem dX4_cross_61 : decode cX4_cross 61 = .ok (.aload_n 0, 1) := by decide +kernel
theorem dX4_cross_62 : decode cX4_cross 62 = .ok (.iload_n 3, 1) := by decide +kernel
theorem dX4_cross_63 : decode cX4_cross 63 = .ok (.aload_n 0, 1) := by decide +kernel
theorem dX4_cross_64 : decode cX4_cross 64 = .ok (.getfield 113, 3) := by decide +kernel
theorem dX4_cross_67 : decode cX4_cross 67 = .ok (.invokevirtual 97, 3) := by decide +kernel
theorem dX4_cross_70 : decode cX4_cross 70 = .ok (.if_icmp .ne 39, 3) := by decide +kernel
theorem dX4_cross_73 : decode cX4_cross 73 = .ok (.aload_n 0, 1) := by decide +kernel
theorem dX4_cross_74 : decode cX4_cross 74 = .ok (.aload_n 0, 1) := by decide +kernel
theorem dX4_cross_75 : decode cX4_cross 75 = .ok (.iload_n 3, 1) := by decide +kernel
theorem dX4_cross_76 : decode cX4_cross 76 = .ok (.aload_n 0, 1) := by decide +kernel
theorem dX4_cross_77 : decode cX4_cross 77 = .ok (.getfield 113, 3) := by decide +kernel
theorem dX4_cross_80 : decode cX4_cross 80 = .ok (.invokevirtual 93, 3) := by decide +kernel
theorem dX4_cross_83 : decode cX4_cross 83 = .ok (.invokevirtual 100, 3) := by decide +kernel
theorem dX4_cross_86 : decode cX4_cross 86 = .ok (.ifCond .eq 23, 3) := by decide +kernel
theorem dX4_cross_89 : decode cX4_cross 89 = .ok (.aload_n 0, 1) := by decide +kernel
theorem dX4_cross_90 : decode cX4_cross 90 = .ok (.getfield 44, 3) := by decide +kernel
theorem dX4_cross_93 : decode cX4_cross 93 = .ok (.iload_n 3, 1) := by decide +kernel
theorem dX4_cross_94 : decode cX4_cross 94 = .ok (.aload_n 0, 1) := by decide +kernel
theorem dX4_cross_95 : decode cX4_cross 95 = .ok (.iload_n 3, 1) := by decide +kernel
theorem dX4_cross_96 : decode cX4_cross 96 = .ok (.aload_n 0, 1) := by decide +kernel
theorem dX4_cross_97 : decode cX4_cross 97 = .ok (.getfield 113, 3) := by decide +kernel
theorem dX4_cross_100 : decode cX4_cross 100 = .ok (.invokevirtual 93, 3) := by decide +kernel
theorem dX4_cross_103 : decode cX4_cross 103 = .ok (.iastore, 1) := by decide +kernel
theorem dX4_cross_104 : decode cX4_cross 104 = .ok (.aload_n 0, 1) := by decide +kernel
theorem dX4_cross_105 : decode cX4_cross 105 = .ok (.iload_n 3, 1) := by decide +kernel
theorem dX4_cross_106 : decode cX4_cross 106 = .ok (.invokevirtual 116, 3) := by decide +kernel
theorem dX4_cross_109 : decode cX4_cross 109 = .ok (.iload_n 2, 1) := by decide +kernel
theorem dX4_cross_110 : decode cX4_cross 110 = .ok (.ifCond .eq 33, 3) := by decide +kernel
theorem dX4_cross_113 : decode cX4_cross 113 = .ok (.aload_n 0, 1) := by decide +kernel
theorem dX4_cross_114 : decode cX4_cross 114 = .ok (.iload_n 3, 1) := by decide +kernel
theorem dX4_cross_115 : decode cX4_cross 115 = .ok (.invokevirtual 110, 3) := by decide +kernel
theorem dX4_cross_118 : decode cX4_cross 118 = .ok (.ifCond .ne 21, 3) := by decide +kernel
theorem dX4_cross_121 : decode cX4_cross 121 = .ok (.aload_n 0, 1) := by decide +kernel
theorem dX4_cross_122 : decode cX4_cross 122 = .ok (.getfield 47, 3) := by decide +kernel
theorem dX4_cross_125 : decode cX4_cross 125 = .ok (.iload_n 3, 1) := by decide +kernel
theorem dX4_cross_126 : decode cX4_cross 126 = .ok (.iaload, 1) := by decide +kernel
theorem dX4_cross_127 : decode cX4_cross 127 = .ok (.ifCond .ne 16, 3) := by decide +kernel
theorem dX4_cross_130 : decode cX4_cross 130 = .ok (.aload_n 0, 1) := by decide +kernel
theorem dX4_cross_131 : decode cX4_cross 131 = .ok (.getfield 44, 3) := by decide +kernel
theorem dX4_cross_134 : decode cX4_cross 134 = .ok (.iload_n 3, 1) := by decide +kernel
theorem dX4_cross_135 : decode cX4_cross 135 = .ok (.iaload, 1) := by decide +kernel
theorem dX4_cross_136 : decode cX4_cross 136 = .ok (.ifCond .ge 7, 3) := by decide +kernel
theorem dX4_cross_139 : decode cX4_cross 139 = .ok (.iconst 1, 1) := by decide +kernel
theorem dX4_cross_140 : decode cX4_cross 140 = .ok (.goto 4, 3) := by decide +kernel
theorem dX4_cross_143 : decode cX4_cross 143 = .ok (.iconst 0, 1) := by decide +kernel
theorem dX4_cross_144 : decode cX4_cross 144 = .ok (.istore_n 2, 1) := by decide +kernel
theorem dX4_cross_145 : decode cX4_cross 145 = .ok (.iinc 3 1, 3) := by decide +kernel
theorem dX4_cross_148 : decode cX4_cross 148 = .ok (.goto (-110), 3) := by decide +kernel
theorem dX4_cross_151 : decode cX4_cross 151 = .ok (.iload_n 1, 1) := by decide +kernel
theorem dX4_cross_152 : decode cX4_cross 152 = .ok (.ifCond .eq 57, 3) := by decide +kernel
theorem dX4_cross_155 : decode cX4_cross 155 = .ok (.aload_n 0, 1) := by decide +kernel
theorem dX4_cross_156 : decode cX4_cross 156 = .ok (.getfield 119, 3) := by decide +kernel
theorem dX4_cross_159 : decode cX4_cross 159 = .ok (.ifCond .ne 50, 3) := by decide +kernel
theorem dX4_cross_162 : decode cX4_cross 162 = .ok (.iload_n 2, 1) := by decide +kernel
theorem dX4_cross_163 : decode cX4_cross 163 = .ok (.ifCond .eq 46, 3) := by decide +kernel
theorem dX4_cross_166 : decode cX4_cross 166 = .ok (.aload_n 0, 1) := by decide +kernel
theorem dX4_cross_167 : decode cX4_cross 167 = .ok (.iconst 1, 1) := by decide +kernel
theorem dX4_cross_168 : decode cX4_cross 168 = .ok (.putfield 119, 3) := by decide +kernel
theorem dX4_cross_171 : decode cX4_cross 171 = .ok (.aload_n 0, 1) := by decide +kernel
theorem dX4_cross_172 : decode cX4_cross 172 = .ok (.dup, 1) := by decide +kernel
theorem dX4_cross_173 : decode cX4_cross 173 = .ok (.getfield 126, 3) := by decide +kernel
theorem dX4_cross_176 : decode cX4_cross 176 = .ok (.iconst 1, 1) := by decide +kernel
theorem dX4_cross_177 : decode cX4_cross 177 = .ok (.iadd, 1) := by decide +kernel
theorem dX4_cross_178 : decode cX4_cross 178 = .ok (.putfield 126, 3) := by decide +kernel
theorem dX4_cross_181 : decode cX4_cross 181 = .ok (.iconst 0, 1) := by decide +kernel
theorem dX4_cross_182 : decode cX4_cross 182 = .ok (.istore_n 3, 1) := by decide +kernel
theorem dX4_cross_183 : decode cX4_cross 183 = .ok (.iload_n 3, 1) := by decide +kernel
theorem dX4_cross_184 : decode cX4_cross 184 = .ok (.iconst 2, 1) := by decide +kernel
theorem dX4_cross_185 : decode cX4_cross 185 = .ok (.if_icmp .ge 24, 3) := by decide +kernel
theorem dX4_cross_188 : decode cX4_cross 188 = .ok (.aload_n 0, 1) := by decide +kernel
theorem dX4_cross_189 : decode cX4_cross 189 = .ok (.getfield 47, 3) := by decide +kernel
theorem dX4_cross_192 : decode cX4_cross 192 = .ok (.iload_n 3, 1) := by decide +kernel
theorem dX4_cross_193 : decode cX4_cross 193 = .ok (.iaload, 1) := by decide +kernel
theorem dX4_cross_194 : decode cX4_cross 194 = .ok (.iconst 1, 1) := by decide +kernel
theorem dX4_cross_195 : decode cX4_cross 195 = .ok (.if_icmp .ne 8, 3) := by decide +kernel
theorem dX4_cross_198 : decode cX4_cross 198 = .ok (.aload_n 0, 1) := by decide +kernel
theorem dX4_cross_199 : decode cX4_cross 199 = .ok (.iload_n 3, 1) := by decide +kernel
theorem dX4_cross_200 : decode cX4_cross 200 = .ok (.invokevirtual 116, 3) := by decide +kernel
theorem dX4_cross_203 : decode cX4_cross 203 = .ok (.iinc 3 1, 3) := by decide +kernel
theorem dX4_cross_206 : decode cX4_cross 206 = .ok (.goto (-23), 3) := by decide +kernel
theorem dX4_cross_209 : decode cX4_cross 209 = .ok (.return_, 1) := by decide +kernel
theorem dX4_comesAlong_0 : decode cX4_comesAlong 0 = .ok (.aload_n 0, 1) := by decide +kernel
theorem dX4_comesAlong_1 : decode cX4_comesAlong 1 = .ok (.iload_n 1, 1) := by decide +kernel
theorem dX4_comesAlong_2 : decode cX4_comesAlong 2 = .ok (.iconst 1, 1) := by decide +kernel
theorem dX4_comesAlong_3 : decode cX4_comesAlong 3 = .ok (.invokevirtual 75, 3) := by decide +kernel
theorem dX4_comesAlong_6 : decode cX4_comesAlong 6 = .ok (.ifCond .eq 17, 3) := by decide +kernel
theorem dX4_comesAlong_9 : decode cX4_comesAlong 9 = .ok (.aload_n 0, 1) := by decide +kernel
theorem dX4_comesAlong_10 : decode cX4_comesAlong 10 = .ok (.iload_n 1, 1) := by decide +kernel
theorem dX4_comesAlong_11 : decode cX4_comesAlong 11 = .ok (.bipush 32, 2) := by decide +kernel
theorem dX4_comesAlong_13 : decode cX4_comesAlong 13 = .ok (.invokevirtual 75, 3) := by decide +kernel
theorem dX4_comesAlong_16 : decode cX4_comesAlong 16 = .ok (.ifCond .eq 7, 3) := by decide +kernel
theorem dX4_comesAlong_19 : decode cX4_comesAlong 19 = .ok (.iconst 1, 1) := by decide +kernel
theorem dX4_comesAlong_20 : decode cX4_comesAlong 20 = .ok (.goto 4, 3) := by decide +kernel
theorem dX4_comesAlong_23 : decode cX4_comesAlong 23 = .ok (.iconst 0, 1) := by decide +kernel
theorem dX4_comesAlong_24 : decode cX4_comesAlong 24 = .ok (.ireturn, 1) := by decide +kernel
theorem dX4_begin_0 : decode cX4_begin 0 = .ok (.aload_n 0, 1) := by decide +kernel
theorem dX4_begin_1 : decode cX4_begin 1 = .ok (.getfield 44, 3) := by decide +kernel
theorem dX4_begin_4 : decode cX4_begin 4 = .ok (.iload_n 1, 1) := by decide +kernel
theorem dX4_begin_5 : decode cX4_begin 5 = .ok (.iaload, 1) := by decide +kernel
theorem dX4_begin_6 : decode cX4_begin 6 = .ok (.istore_n 2, 1) := by decide +kernel
theorem dX4_begin_7 : decode cX4_begin 7 = .ok (.aload_n 0, 1) := by decide +kernel
theorem dX4_begin_8 : decode cX4_begin 8 = .ok (.getfield 41, 3) := by decide +kernel
theorem dX4_begin_11 : decode cX4_begin 11 = .ok (.iload_n 1, 1) := by decide +kernel
theorem dX4_begin_12 : decode cX4_begin 12 = .ok (.iload_n 2, 1) := by decide +kernel
theorem dX4_begin_13 : decode cX4_begin 13 = .ok (.iastore, 1) := by decide +kernel
theorem dX4_begin_14 : decode cX4_begin 14 = .ok (.aload_n 0, 1) := by decide +kernel
theorem dX4_begin_15 : decode cX4_begin 15 = .ok (.getfield 44, 3) := by decide +kernel
theorem dX4_begin_18 : decode cX4_begin 18 = .ok (.iload_n 1, 1) := by decide +kernel
theorem dX4_begin_19 : decode cX4_begin 19 = .ok (.iconst (-1), 1) := by decide +kernel
theorem dX4_begin_20 : decode cX4_begin 20 = .ok (.iastore, 1) := by decide +kernel
theorem dX4_begin_21 : decode cX4_begin 21 = .ok (.aload_n 0, 1) := by decide +kernel
theorem dX4_begin_22 : decode cX4_begin 22 = .ok (.getfield 47, 3) := by decide +kernel
theorem dX4_begin_25 : decode cX4_begin 25 = .ok (.iload_n 1, 1) := by decide +kernel
theorem dX4_begin_26 : decode cX4_begin 26 = .ok (.iconst 1, 1) := by decide +kernel
theorem dX4_begin_27 : decode cX4_begin 27 = .ok (.iastore, 1) := by decide +kernel
theorem dX4_begin_28 : decode cX4_begin 28 = .ok (.aload_n 0, 1) := by decide +kernel
theorem dX4_begin_29 : decode cX4_begin 29 = .ok (.getfield 50, 3) := by decide +kernel
theorem dX4_begin_32 : decode cX4_begin 32 = .ok (.iload_n 1, 1) := by decide +kernel
theorem dX4_begin_33 : decode cX4_begin 33 = .ok (.iconst 0, 1) := by decide +kernel
theorem dX4_begin_34 : decode cX4_begin 34 = .ok (.iastore, 1) := by decide +kernel
theorem dX4_begin_35 : decode cX4_begin 35 = .ok (.aload_n 0, 1) := by decide +kernel
theorem dX4_begin_36 : decode cX4_begin 36 = .ok (.getfield 53, 3) := by decide +kernel
theorem dX4_begin_39 : decode cX4_begin 39 = .ok (.iload_n 1, 1) := by decide +kernel
theorem dX4_begin_40 : decode cX4_begin 40 = .ok (.aload_n 0, 1) := by decide +kernel
theorem dX4_begin_41 : decode cX4_begin 41 = .ok (.iload_n 2, 1) := by decide +kernel
theorem dX4_begin_42 : decode cX4_begin 42 = .ok (.iconst 1, 1) := by decide +kernel
theorem dX4_begin_43 : decode cX4_begin 43 = .ok (.invokevirtual 103, 3) := by decide +kernel
theorem dX4_begin_46 : decode cX4_begin 46 = .ok (.iastore, 1) := by decide +kernel
theorem dX4_begin_47 : decode cX4_begin 47 = .ok (.aload_n 0, 1) := by decide +kernel
theorem dX4_begin_48 : decode cX4_begin 48 = .ok (.getfield 56, 3) := by decide +kernel
theorem dX4_begin_51 : decode cX4_begin 51 = .ok (.iload_n 1, 1) := by decide +kernel
theorem dX4_begin_52 : decode cX4_begin 52 = .ok (.iconst 0, 1) := by decide +kernel
theorem dX4_begin_53 : decode cX4_begin 53 = .ok (.iastore, 1) := by decide +kernel
theorem dX4_begin_54 : decode cX4_begin 54 = .ok (.aload_n 0, 1) := by decide +kernel
theorem dX4_begin_55 : decode cX4_begin 55 = .ok (.getfield 23, 3) := by decide +kernel
theorem dX4_begin_58 : decode cX4_begin 58 = .ok (.iload_n 2, 1) := by decide +kernel
theorem dX4_begin_59 : decode cX4_begin 59 = .ok (.iconst 0, 1) := by decide +kernel
theorem dX4_begin_60 : decode cX4_begin 60 = .ok (.bastore, 1) := by decide +kernel
theorem dX4_begin_61 : decode cX4_begin 61 = .ok (.aload_n 0, 1) := by decide +kernel
theorem dX4_begin_62 : decode cX4_begin 62 = .ok (.getfield 32, 3) := by decide +kernel
theorem dX4_begin_65 : decode cX4_begin 65 = .ok (.iload_n 2, 1) := by decide +kernel
theorem dX4_begin_66 : decode cX4_begin 66 = .ok (.dup2, 1) := by decide +kernel
theorem dX4_begin_67 : decode cX4_begin 67 = .ok (.iaload, 1) := by decide +kernel
theorem dX4_begin_68 : decode cX4_begin 68 = .ok (.iconst 1, 1) := by decide +kernel
theorem dX4_begin_69 : decode cX4_begin 69 = .ok (.iadd, 1) := by decide +kernel
theorem dX4_begin_70 : decode cX4_begin 70 = .ok (.iastore, 1) := by decide +kernel
theorem dX4_begin_71 : decode cX4_begin 71 = .ok (.aload_n 0, 1) := by decide +kernel
theorem dX4_begin_72 : decode cX4_begin 72 = .ok (.getfield 20, 3) := by decide +kernel
theorem dX4_begin_75 : decode cX4_begin 75 = .ok (.iload_n 2, 1) := by decide +kernel
theorem dX4_begin_76 : decode cX4_begin 76 = .ok (.baload, 1) := by decide +kernel
theorem dX4_begin_77 : decode cX4_begin 77 = .ok (.ifCond .ne 13, 3) := by decide +kernel
theorem dX4_begin_80 : decode cX4_begin 80 = .ok (.aload_n 0, 1) := by decide +kernel
theorem dX4_begin_81 : decode cX4_begin 81 = .ok (.iload_n 2, 1) := by decide +kernel
theorem dX4_begin_82 : decode cX4_begin 82 = .ok (.bipush 16, 2) := by decide +kernel
theorem dX4_begin_84 : decode cX4_begin 84 = .ok (.invokevirtual 75, 3) := by decide +kernel
theorem dX4_begin_87 : decode cX4_begin 87 = .ok (.ifCond .eq 16, 3) := by decide +kernel
theorem dX4_begin_90 : decode cX4_begin 90 = .ok (.aload_n 0, 1) := by decide +kernel
theorem dX4_begin_91 : decode cX4_begin 91 = .ok (.iload_n 2, 1) := by decide +kernel
theorem dX4_begin_92 : decode cX4_begin 92 = .ok (.iconst 5, 1) := by decide +kernel
theorem dX4_begin_93 : decode cX4_begin 93 = .ok (.invokevirtual 103, 3) := by decide +kernel
theorem dX4_begin_96 : decode cX4_begin 96 = .ok (.ifCond .le 7, 3) := by decide +kernel
theorem dX4_begin_99 : decode cX4_begin 99 = .ok (.iconst 1, 1) := by decide +kernel
theorem dX4_begin_100 : decode cX4_begin 100 = .ok (.goto 4, 3) := by decide +kernel
theorem dX4_begin_103 : decode cX4_begin 103 = .ok (.iconst 0, 1) := by decide +kernel
theorem dX4_begin_104 : decode cX4_begin 104 = .ok (.istore_n 3, 1) := by decide +kernel
theorem dX4_begin_105 : decode cX4_begin 105 = .ok (.aload_n 0, 1) := by decide +kernel
theorem dX4_begin_106 : decode cX4_begin 106 = .ok (.getfield 59, 3) := by decide +kernel
theorem dX4_begin_109 : decode cX4_begin 109 = .ok (.iload_n 1, 1) := by decide +kernel
theorem dX4_begin_110 : decode cX4_begin 110 = .ok (.iload_n 3, 1) := by decide +kernel
theorem dX4_begin_111 : decode cX4_begin 111 = .ok (.ifCond .eq 12, 3) := by decide +kernel
theorem dX4_begin_114 : decode cX4_begin 114 = .ok (.aload_n 0, 1) := by decide +kernel
theorem dX4_begin_115 : decode cX4_begin 115 = .ok (.iload_n 2, 1) := by decide +kernel
theorem dX4_begin_116 : decode cX4_begin 116 = .ok (.iconst 5, 1) := by decide +kernel
theorem dX4_begin_117 : decode cX4_begin 117 = .ok (.invokevirtual 103, 3) := by decide +kernel
theorem dX4_begin_120 : decode cX4_begin 120 = .ok (.goto 4, 3) := by decide +kernel
theorem dX4_begin_123 : decode cX4_begin 123 = .ok (.iconst 0, 1) := by decide +kernel
theorem dX4_begin_124 : decode cX4_begin 124 = .ok (.iastore, 1) := by decide +kernel
theorem dX4_begin_125 : decode cX4_begin 125 = .ok (.aload_n 0, 1) := by decide +kernel
theorem dX4_begin_126 : decode cX4_begin 126 = .ok (.getfield 62, 3) := by decide +kernel
theorem dX4_begin_129 : decode cX4_begin 129 = .ok (.iload_n 1, 1) := by decide +kernel
theorem dX4_begin_130 : decode cX4_begin 130 = .ok (.iload_n 3, 1) := by decide +kernel
theorem dX4_begin_131 : decode cX4_begin 131 = .ok (.ifCond .eq 13, 3) := by decide +kernel
theorem dX4_begin_134 : decode cX4_begin 134 = .ok (.aload_n 0, 1) := by decide +kernel
theorem dX4_begin_135 : decode cX4_begin 135 = .ok (.iload_n 2, 1) := by decide +kernel
theorem dX4_begin_136 : decode cX4_begin 136 = .ok (.bipush 6, 2) := by decide +kernel
theorem dX4_begin_138 : decode cX4_begin 138 = .ok (.invokevirtual 103, 3) := by decide +kernel
theorem dX4_begin_141 : decode cX4_begin 141 = .ok (.goto 4, 3) := by decide +kernel
theorem dX4_begin_144 : decode cX4_begin 144 = .ok (.iconst 0, 1) := by decide +kernel
theorem dX4_begin_145 : decode cX4_begin 145 = .ok (.iastore, 1) := by decide +kernel
theorem dX4_begin_146 : decode cX4_begin 146 = .ok (.aload_n 0, 1) := by decide +kernel
theorem dX4_begin_147 : decode cX4_begin 147 = .ok (.getfield 20, 3) := by decide +kernel
theorem dX4_begin_150 : decode cX4_begin 150 = .ok (.iload_n 2, 1) := by decide +kernel
theorem dX4_begin_151 : decode cX4_begin 151 = .ok (.iconst 0, 1) := by decide +kernel
theorem dX4_begin_152 : decode cX4_begin 152 = .ok (.bastore, 1) := by decide +kernel
theorem dX4_begin_153 : decode cX4_begin 153 = .ok (.return_, 1) := by decide +kernel
theorem dX4_tick_0 : decode cX4_tick 0 = .ok (.aload_n 0, 1) := by decide +kernel
theorem dX4_tick_1 : decode cX4_tick 1 = .ok (.invokevirtual 129, 3) := by decide +kernel
theorem dX4_tick_4 : decode cX4_tick 4 = .ok (.iconst 0, 1) := by decide +kernel
theorem dX4_tick_5 : decode cX4_tick 5 = .ok (.istore_n 1, 1) := by decide +kernel
theorem dX4_tick_6 : decode cX4_tick 6 = .ok (.iload_n 1, 1) := by decide +kernel
theorem dX4_tick_7 : decode cX4_tick 7 = .ok (.iconst 2, 1) := by decide +kernel
theorem dX4_tick_8 : decode cX4_tick 8 = .ok (.if_icmp .ge 14, 3) := by decide +kernel
theorem dX4_tick_11 : decode cX4_tick 11 = .ok (.aload_n 0, 1) := by decide +kernel
theorem dX4_tick_12 : decode cX4_tick 12 = .ok (.iload_n 1, 1) := by decide +kernel
theorem dX4_tick_13 : decode cX4_tick 13 = .ok (.invokevirtual 132, 3) := by decide +kernel
theorem dX4_tick_16 : decode cX4_tick 16 = .ok (.iinc 1 1, 3) := by decide +kernel
theorem dX4_tick_19 : decode cX4_tick 19 = .ok (.goto (-13), 3) := by decide +kernel
theorem dX4_tick_22 : decode cX4_tick 22 = .ok (.iconst 0, 1) := by decide +kernel
theorem dX4_tick_23 : decode cX4_tick 23 = .ok (.istore_n 1, 1) := by decide +kernel
theorem dX4_tick_24 : decode cX4_tick 24 = .ok (.iload_n 1, 1) := by decide +kernel
theorem dX4_tick_25 : decode cX4_tick 25 = .ok (.iconst 2, 1) := by decide +kernel
theorem dX4_tick_26 : decode cX4_tick 26 = .ok (.if_icmp .ge 14, 3) := by decide +kernel
theorem dX4_tick_29 : decode cX4_tick 29 = .ok (.aload_n 0, 1) := by decide +kernel
theorem dX4_tick_30 : decode cX4_tick 30 = .ok (.iload_n 1, 1) := by decide +kernel
theorem dX4_tick_31 : decode cX4_tick 31 = .ok (.invokevirtual 135, 3) := by decide +kernel
theorem dX4_tick_34 : decode cX4_tick 34 = .ok (.iinc 1 1, 3) := by decide +kernel
theorem dX4_tick_37 : decode cX4_tick 37 = .ok (.goto (-13), 3) := by decide +kernel
theorem dX4_tick_40 : decode cX4_tick 40 = .ok (.aload_n 0, 1) := by decide +kernel
theorem dX4_tick_41 : decode cX4_tick 41 = .ok (.invokevirtual 138, 3) := by decide +kernel
theorem dX4_tick_44 : decode cX4_tick 44 = .ok (.aload_n 0, 1) := by decide +kernel
theorem dX4_tick_45 : decode cX4_tick 45 = .ok (.getfield 119, 3) := by decide +kernel
theorem dX4_tick_48 : decode cX4_tick 48 = .ok (.ifCond .eq 121, 3) := by decide +kernel
theorem dX4_tick_51 : decode cX4_tick 51 = .ok (.aload_n 0, 1) := by decide +kernel
theorem dX4_tick_52 : decode cX4_tick 52 = .ok (.getfield 47, 3) := by decide +kernel
theorem dX4_tick_55 : decode cX4_tick 55 = .ok (.iconst 0, 1) := by decide +kernel
theorem dX4_tick_56 : decode cX4_tick 56 = .ok (.iaload, 1) := by decide +kernel
theorem dX4_tick_57 : decode cX4_tick 57 = .ok (.ifCond .ne 112, 3) := by decide +kernel
theorem dX4_tick_60 : decode cX4_tick 60 = .ok (.aload_n 0, 1) := by decide +kernel
theorem dX4_tick_61 : decode cX4_tick 61 = .ok (.getfield 47, 3) := by decide +kernel
theorem dX4_tick_64 : decode cX4_tick 64 = .ok (.iconst 1, 1) := by decide +kernel
theorem dX4_tick_65 : decode cX4_tick 65 = .ok (.iaload, 1) := by decide +kernel
theorem dX4_tick_66 : decode cX4_tick 66 = .ok (.ifCond .ne 103, 3) := by decide +kernel
theorem dX4_tick_69 : decode cX4_tick 69 = .ok (.aload_n 0, 1) := by decide +kernel
theorem dX4_tick_70 : decode cX4_tick 70 = .ok (.iconst 0, 1) := by decide +kernel
theorem dX4_tick_71 : decode cX4_tick 71 = .ok (.putfield 119, 3) := by decide +kernel
theorem dX4_tick_74 : decode cX4_tick 74 = .ok (.aload_n 0, 1) := by decide +kernel
theorem dX4_tick_75 : decode cX4_tick 75 = .ok (.iconst 1, 1) := by decide +kernel
theorem dX4_tick_76 : decode cX4_tick 76 = .ok (.aload_n 0, 1) := by decide +kernel
theorem dX4_tick_77 : decode cX4_tick 77 = .ok (.getfield 113, 3) := by decide +kernel
theorem dX4_tick_80 : decode cX4_tick 80 = .ok (.isub, 1) := by decide +kernel
theorem dX4_tick_81 : decode cX4_tick 81 = .ok (.putfield 113, 3) := by decide +kernel
theorem dX4_tick_84 : decode cX4_tick 84 = .ok (.iconst 0, 1) := by decide +kernel
theorem dX4_tick_85 : decode cX4_tick 85 = .ok (.istore_n 1, 1) := by decide +kernel
theorem dX4_tick_86 : decode cX4_tick 86 = .ok (.iload_n 1, 1) := by decide +kernel
theorem dX4_tick_87 : decode cX4_tick 87 = .ok (.iconst 2, 1) := by decide +kernel
theorem dX4_tick_88 : decode cX4_tick 88 = .ok (.if_icmp .ge 81, 3) := by decide +kernel
theorem dX4_tick_91 : decode cX4_tick 91 = .ok (.aload_n 0, 1) := by decide +kernel
theorem dX4_tick_92 : decode cX4_tick 92 = .ok (.iload_n 1, 1) := by decide +kernel
theorem dX4_tick_93 : decode cX4_tick 93 = .ok (.aload_n 0, 1) := by decide +kernel
theorem dX4_tick_94 : decode cX4_tick 94 = .ok (.getfield 113, 3) := by decide +kernel
theorem dX4_tick_97 : decode cX4_tick 97 = .ok (.invokevirtual 123, 3) := by decide +kernel
theorem dX4_tick_100 : decode cX4_tick 100 = .ok (.istore_n 2, 1) := by decide +kernel
theorem dX4_tick_101 : decode cX4_tick 101 = .ok (.aload_n 0, 1) := by decide +kernel
theorem dX4_tick_102 : decode cX4_tick 102 = .ok (.iload_n 1, 1) := by decide +kernel
theorem dX4_tick_103 : decode cX4_tick 103 = .ok (.aload_n 0, 1) := by decide +kernel
theorem dX4_tick_104 : decode cX4_tick 104 = .ok (.getfield 113, 3) := by decide +kernel
theorem dX4_tick_107 : decode cX4_tick 107 = .ok (.invokevirtual 93, 3) := by decide +kernel
theorem dX4_tick_110 : decode cX4_tick 110 = .ok (.istore_n 3, 1) := by decide +kernel
theorem dX4_tick_111 : decode cX4_tick 111 = .ok (.aload_n 0, 1) := by decide +kernel
theorem dX4_tick_112 : decode cX4_tick 112 = .ok (.iload_n 1, 1) := by decide +kernel
theorem dX4_tick_113 : decode cX4_tick 113 = .ok (.aload_n 0, 1) := by decide +kernel
theorem dX4_tick_114 : decode cX4_tick 114 = .ok (.getfield 113, 3) := by decide +kernel
theorem dX4_tick_117 : decode cX4_tick 117 = .ok (.invokevirtual 97, 3) := by decide +kernel
theorem dX4_tick_120 : decode cX4_tick 120 = .ok (.istore 4, 2) := by decide +kernel
theorem dX4_tick_122 : decode cX4_tick 122 = .ok (.aload_n 0, 1) := by decide +kernel
theorem dX4_tick_123 : decode cX4_tick 123 = .ok (.getfield 44, 3) := by decide +kernel
theorem dX4_tick_126 : decode cX4_tick 126 = .ok (.iload_n 1, 1) := by decide +kernel
theorem dX4_tick_127 : decode cX4_tick 127 = .ok (.iload_n 2, 1) := by decide +kernel
theorem dX4_tick_128 : decode cX4_tick 128 = .ok (.ifCond .lt 7, 3) := by decide +kernel
theorem dX4_tick_131 : decode cX4_tick 131 = .ok (.iload_n 2, 1) := by decide +kernel
theorem dX4_tick_132 : decode cX4_tick 132 = .ok (.goto 30, 3) := by decide +kernel
theorem dX4_tick_135 : decode cX4_tick 135 = .ok (.aload_n 0, 1) := by decide +kernel
theorem dX4_tick_136 : decode cX4_tick 136 = .ok (.iload_n 3, 1) := by decide +kernel
theorem dX4_tick_137 : decode cX4_tick 137 = .ok (.invokevirtual 141, 3) := by decide +kernel
theorem dX4_tick_140 : decode cX4_tick 140 = .ok (.ifCond .eq 7, 3) := by decide +kernel
theorem dX4_tick_143 : decode cX4_tick 143 = .ok (.iload_n 3, 1) := by decide +kernel
theorem dX4_tick_144 : decode cX4_tick 144 = .ok (.goto 18, 3) := by decide +kernel
theorem dX4_tick_147 : decode cX4_tick 147 = .ok (.aload_n 0, 1) := by decide +kernel
theorem dX4_tick_148 : decode cX4_tick 148 = .ok (.iload 4, 2) := by decide +kernel
theorem dX4_tick_150 : decode cX4_tick 150 = .ok (.invokevirtual 141, 3) := by decide +kernel
theorem dX4_tick_153 : decode cX4_tick 153 = .ok (.ifCond .eq 8, 3) := by decide +kernel
theorem dX4_tick_156 : decode cX4_tick 156 = .ok (.iload 4, 2) := by decide +kernel
theorem dX4_tick_158 : decode cX4_tick 158 = .ok (.goto 4, 3) := by decide +kernel
theorem dX4_tick_161 : decode cX4_tick 161 = .ok (.iconst (-1), 1) := by decide +kernel
theorem dX4_tick_162 : decode cX4_tick 162 = .ok (.iastore, 1) := by decide +kernel
theorem dX4_tick_163 : decode cX4_tick 163 = .ok (.iinc 1 1, 3) := by decide +kernel
theorem dX4_tick_166 : decode cX4_tick 166 = .ok (.goto (-80), 3) := by decide +kernel
theorem dX4_tick_169 : decode cX4_tick 169 = .ok (.iconst 0, 1) := by decide +kernel
theorem dX4_tick_170 : decode cX4_tick 170 = .ok (.istore_n 1, 1) := by decide +kernel
theorem dX4_tick_171 : decode cX4_tick 171 = .ok (.iload_n 1, 1) := by decide +kernel
theorem dX4_tick_172 : decode cX4_tick 172 = .ok (.iconst 2, 1) := by decide +kernel
theorem dX4_tick_173 : decode cX4_tick 173 = .ok (.if_icmp .ge 32, 3) := by decide +kernel
theorem dX4_tick_176 : decode cX4_tick 176 = .ok (.aload_n 0, 1) := by decide +kernel
theorem dX4_tick_177 : decode cX4_tick 177 = .ok (.getfield 47, 3) := by decide +kernel
theorem dX4_tick_180 : decode cX4_tick 180 = .ok (.iload_n 1, 1) := by decide +kernel
theorem dX4_tick_181 : decode cX4_tick 181 = .ok (.iaload, 1) := by decide +kernel
theorem dX4_tick_182 : decode cX4_tick 182 = .ok (.ifCond .ne 17, 3) := by decide +kernel
theorem dX4_tick_185 : decode cX4_tick 185 = .ok (.aload_n 0, 1) := by decide +kernel
theorem dX4_tick_186 : decode cX4_tick 186 = .ok (.getfield 44, 3) := by decide +kernel
theorem dX4_tick_189 : decode cX4_tick 189 = .ok (.iload_n 1, 1) := by decide +kernel
theorem dX4_tick_190 : decode cX4_tick 190 = .ok (.iaload, 1) := by decide +kernel
theorem dX4_tick_191 : decode cX4_tick 191 = .ok (.ifCond .lt 8, 3) := by decide +kernel
theorem dX4_tick_194 : decode cX4_tick 194 = .ok (.aload_n 0, 1) := by decide +kernel
theorem dX4_tick_195 : decode cX4_tick 195 = .ok (.iload_n 1, 1) := by decide +kernel
theorem dX4_tick_196 : decode cX4_tick 196 = .ok (.invokevirtual 144, 3) := by decide +kernel
theorem dX4_tick_199 : decode cX4_tick 199 = .ok (.iinc 1 1, 3) := by decide +kernel
theorem dX4_tick_202 : decode cX4_tick 202 = .ok (.goto (-31), 3) := by decide +kernel
theorem dX4_tick_205 : decode cX4_tick 205 = .ok (.return_, 1) := by decide +kernel
theorem dX4_lightOf_0 : decode cX4_lightOf 0 = .ok (.iload_n 1, 1) := by decide +kernel
theorem dX4_lightOf_1 : decode cX4_lightOf 1 = .ok (.iconst 4, 1) := by decide +kernel
theorem dX4_lightOf_2 : decode cX4_lightOf 2 = .ok (.idiv, 1) := by decide +kernel
theorem dX4_lightOf_3 : decode cX4_lightOf 3 = .ok (.istore_n 2, 1) := by decide +kernel
theorem dX4_lightOf_4 : decode cX4_lightOf 4 = .ok (.aload_n 0, 1) := by decide +kernel
theorem dX4_lightOf_5 : decode cX4_lightOf 5 = .ok (.getfield 35, 3) := by decide +kernel
theorem dX4_lightOf_8 : decode cX4_lightOf 8 = .ok (.iload_n 1, 1) := by decide +kernel
theorem dX4_lightOf_9 : decode cX4_lightOf 9 = .ok (.iaload, 1) := by decide +kernel
theorem dX4_lightOf_10 : decode cX4_lightOf 10 = .ok (.ifCond .lt 10, 3) := by decide +kernel
theorem dX4_lightOf_13 : decode cX4_lightOf 13 = .ok (.aload_n 0, 1) := by decide +kernel
theorem dX4_lightOf_14 : decode cX4_lightOf 14 = .ok (.getfield 35, 3) := by decide +kernel
theorem dX4_lightOf_17 : decode cX4_lightOf 17 = .ok (.iload_n 1, 1) := by decide +kernel
theorem dX4_lightOf_18 : decode cX4_lightOf 18 = .ok (.iaload, 1) := by decide +kernel
theorem dX4_lightOf_19 : decode cX4_lightOf 19 = .ok (.ireturn, 1) := by decide +kernel
theorem dX4_lightOf_20 : decode cX4_lightOf 20 = .ok (.aload_n 0, 1) := by decide +kernel
theorem dX4_lightOf_21 : decode cX4_lightOf 21 = .ok (.getfield 41, 3) := by decide +kernel
theorem dX4_lightOf_24 : decode cX4_lightOf 24 = .ok (.iload_n 2, 1) := by decide +kernel
theorem dX4_lightOf_25 : decode cX4_lightOf 25 = .ok (.iaload, 1) := by decide +kernel
theorem dX4_lightOf_26 : decode cX4_lightOf 26 = .ok (.iload_n 1, 1) := by decide +kernel
theorem dX4_lightOf_27 : decode cX4_lightOf 27 = .ok (.if_icmp .eq 7, 3) := by decide +kernel
theorem dX4_lightOf_30 : decode cX4_lightOf 30 = .ok (.iconst 0, 1) := by decide +kernel
theorem dX4_lightOf_31 : decode cX4_lightOf 31 = .ok (.goto 32, 3) := by decide +kernel
theorem dX4_lightOf_34 : decode cX4_lightOf 34 = .ok (.aload_n 0, 1) := by decide +kernel
theorem dX4_lightOf_35 : decode cX4_lightOf 35 = .ok (.getfield 47, 3) := by decide +kernel
theorem dX4_lightOf_38 : decode cX4_lightOf 38 = .ok (.iload_n 2, 1) := by decide +kernel
theorem dX4_lightOf_39 : decode cX4_lightOf 39 = .ok (.iaload, 1) := by decide +kernel
theorem dX4_lightOf_40 : decode cX4_lightOf 40 = .ok (.iconst 1, 1) := by decide +kernel
theorem dX4_lightOf_41 : decode cX4_lightOf 41 = .ok (.if_icmp .ne 7, 3) := by decide +kernel
theorem dX4_lightOf_44 : decode cX4_lightOf 44 = .ok (.iconst 2, 1) := by decide +kernel
theorem dX4_lightOf_45 : decode cX4_lightOf 45 = .ok (.goto 18, 3) := by decide +kernel
theorem dX4_lightOf_48 : decode cX4_lightOf 48 = .ok (.aload_n 0, 1) := by decide +kernel
theorem dX4_lightOf_49 : decode cX4_lightOf 49 = .ok (.getfield 47, 3) := by decide +kernel
theorem dX4_lightOf_52 : decode cX4_lightOf 52 = .ok (.iload_n 2, 1) := by decide +kernel
theorem dX4_lightOf_53 : decode cX4_lightOf 53 = .ok (.iaload, 1) := by decide +kernel
theorem dX4_lightOf_54 : decode cX4_lightOf 54 = .ok (.iconst 2, 1) := by decide +kernel
theorem dX4_lightOf_55 : decode cX4_lightOf 55 = .ok (.if_icmp .ne 7, 3) := by decide +kernel
theorem dX4_lightOf_58 : decode cX4_lightOf 58 = .ok (.iconst 1, 1) := by decide +kernel
theorem dX4_lightOf_59 : decode cX4_lightOf 59 = .ok (.goto 4, 3) := by decide +kernel
theorem dX4_lightOf_62 : decode cX4_lightOf 62 = .ok (.iconst 0, 1) := by decide +kernel
theorem dX4_lightOf_63 : decode cX4_lightOf 63 = .ok (.ireturn, 1) := by decide +kernel
theorem dX4_areInWay_0 : decode cX4_areInWay 0 = .ok (.iload_n 0, 1) := by decide +kernel
theorem dX4_areInWay_1 : decode cX4_areInWay 1 = .ok (.iload_n 1, 1) := by decide +kernel
theorem dX4_areInWay_2 : decode cX4_areInWay 2 = .ok (.if_icmp .eq 29, 3) := by decide +kernel
theorem dX4_areInWay_5 : decode cX4_areInWay 5 = .ok (.iload_n 0, 1) := by decide +kernel
theorem dX4_areInWay_6 : decode cX4_areInWay 6 = .ok (.iconst 4, 1) := by decide +kernel
theorem dX4_areInWay_7 : decode cX4_areInWay 7 = .ok (.idiv, 1) := by decide +kernel
theorem dX4_areInWay_8 : decode cX4_areInWay 8 = .ok (.iload_n 1, 1) := by decide +kernel
theorem dX4_areInWay_9 : decode cX4_areInWay 9 = .ok (.iconst 4, 1) := by decide +kernel
theorem dX4_areInWay_10 : decode cX4_areInWay 10 = .ok (.idiv, 1) := by decide +kernel
theorem dX4_areInWay_11 : decode cX4_areInWay 11 = .ok (.if_icmp .eq 16, 3) := by decide +kernel
theorem dX4_areInWay_14 : decode cX4_areInWay 14 = .ok (.iload_n 0, 1) := by decide +kernel
theorem dX4_areInWay_15 : decode cX4_areInWay 15 = .ok (.iconst 4, 1) := by decide +kernel
theorem dX4_areInWay_16 : decode cX4_areInWay 16 = .ok (.irem, 1) := by decide +kernel
theorem dX4_areInWay_17 : decode cX4_areInWay 17 = .ok (.iconst 2, 1) := by decide +kernel
theorem dX4_areInWay_18 : decode cX4_areInWay 18 = .ok (.idiv, 1) := by decide +kernel
theorem dX4_areInWay_19 : decode cX4_areInWay 19 = .ok (.iload_n 1, 1) := by decide +kernel
theorem dX4_areInWay_20 : decode cX4_areInWay 20 = .ok (.iconst 4, 1) := by decide +kernel
theorem dX4_areInWay_21 : decode cX4_areInWay 21 = .ok (.irem, 1) := by decide +kernel
theorem dX4_areInWay_22 : decode cX4_areInWay 22 = .ok (.iconst 2, 1) := by decide +kernel
theorem dX4_areInWay_23 : decode cX4_areInWay 23 = .ok (.idiv, 1) := by decide +kernel
theorem dX4_areInWay_24 : decode cX4_areInWay 24 = .ok (.if_icmp .eq 7, 3) := by decide +kernel
theorem dX4_areInWay_27 : decode cX4_areInWay 27 = .ok (.iconst 1, 1) := by decide +kernel
theorem dX4_areInWay_28 : decode cX4_areInWay 28 = .ok (.goto 4, 3) := by decide +kernel
theorem dX4_areInWay_31 : decode cX4_areInWay 31 = .ok (.iconst 0, 1) := by decide +kernel
theorem dX4_areInWay_32 : decode cX4_areInWay 32 = .ok (.ireturn, 1) := by decide +kernel
theorem dX4_look_0 : decode cX4_look 0 = .ok (.iconst 0, 1) := by decide +kernel
theorem dX4_look_1 : decode cX4_look 1 = .ok (.istore_n 1, 1) := by decide +kernel
theorem dX4_look_2 : decode cX4_look 2 = .ok (.iconst 0, 1) := by decide +kernel
theorem dX4_look_3 : decode cX4_look 3 = .ok (.istore_n 2, 1) := by decide +kernel
theorem dX4_look_4 : decode cX4_look 4 = .ok (.iconst 0, 1) := by decide +kernel
theorem dX4_look_5 : decode cX4_look 5 = .ok (.istore_n 3, 1) := by decide +kernel
theorem dX4_look_6 : decode cX4_look 6 = .ok (.iconst 0, 1) := by decide +kernel
theorem dX4_look_7 : decode cX4_look 7 = .ok (.istore 4, 2) := by decide +kernel
theorem dX4_look_9 : decode cX4_look 9 = .ok (.iload 4, 2) := by decide +kernel
theorem dX4_look_11 : decode cX4_look 11 = .ok (.bipush 8, 2) := by decide +kernel
theorem dX4_look_13 : decode cX4_look 13 = .ok (.if_icmp .ge 130, 3) := by decide +kernel
theorem dX4_look_16 : decode cX4_look 16 = .ok (.aload_n 0, 1) := by decide +kernel
theorem dX4_look_17 : decode cX4_look 17 = .ok (.iload 4, 2) := by decide +kernel
theorem dX4_look_19 : decode cX4_look 19 = .ok (.invokevirtual 147, 3) := by decide +kernel
theorem dX4_look_22 : decode cX4_look 22 = .ok (.istore 5, 2) := by decide +kernel
theorem dX4_look_24 : decode cX4_look 24 = .ok (.iconst 0, 1) := by decide +kernel
theorem dX4_look_25 : decode cX4_look 25 = .ok (.istore 6, 2) := by decide +kernel
theorem dX4_look_27 : decode cX4_look 27 = .ok (.iload 6, 2) := by decide +kernel
theorem dX4_look_29 : decode cX4_look 29 = .ok (.bipush 8, 2) := by decide +kernel
theorem dX4_look_31 : decode cX4_look 31 = .ok (.if_icmp .ge 43, 3) := by decide +kernel
theorem dX4_look_34 : decode cX4_look 34 = .ok (.iload_n 1, 1) := by decide +kernel
theorem dX4_look_35 : decode cX4_look 35 = .ok (.ifCond .ne 27, 3) := by decide +kernel
theorem dX4_look_38 : decode cX4_look 38 = .ok (.iload 4, 2) := by decide +kernel
theorem dX4_look_40 : decode cX4_look 40 = .ok (.iload 6, 2) := by decide +kernel
theorem dX4_look_42 : decode cX4_look 42 = .ok (.invokestatic 151, 3) := by decide +kernel
theorem dX4_look_45 : decode cX4_look 45 = .ok (.ifCond .eq 21, 3) := by decide +kernel
theorem dX4_look_48 : decode cX4_look 48 = .ok (.iload 5, 2) := by decide +kernel
theorem dX4_look_50 : decode cX4_look 50 = .ok (.ifCond .le 16, 3) := by decide +kernel
theorem dX4_look_53 : decode cX4_look 53 = .ok (.aload_n 0, 1) := by decide +kernel
end
section
theorem dX4_look_54 : decode cX4_look 54 = .ok (.iload 6, 2) := by decide +kernel
theorem dX4_look_56 : decode cX4_look 56 = .ok (.invokevirtual 147, 3) := by decide +kernel
theorem dX4_look_59 : decode cX4_look 59 = .ok (.ifCond .le 7, 3) := by decide +kernel
theorem dX4_look_62 : decode cX4_look 62 = .ok (.iconst 1, 1) := by decide +kernel
theorem dX4_look_63 : decode cX4_look 63 = .ok (.goto 4, 3) := by decide +kernel
theorem dX4_look_66 : decode cX4_look 66 = .ok (.iconst 0, 1) := by decide +kernel
theorem dX4_look_67 : decode cX4_look 67 = .ok (.istore_n 1, 1) := by decide +kernel
theorem dX4_look_68 : decode cX4_look 68 = .ok (.iinc 6 1, 3) := by decide +kernel
theorem dX4_look_71 : decode cX4_look 71 = .ok (.goto (-44), 3) := by decide +kernel
theorem dX4_look_74 : decode cX4_look 74 = .ok (.iload_n 2, 1) := by decide +kernel
theorem dX4_look_75 : decode cX4_look 75 = .ok (.ifCond .ne 19, 3) := by decide +kernel
theorem dX4_look_78 : decode cX4_look 78 = .ok (.iload 5, 2) := by decide +kernel
theorem dX4_look_80 : decode cX4_look 80 = .ok (.ifCond .ne 18, 3) := by decide +kernel
theorem dX4_look_83 : decode cX4_look 83 = .ok (.aload_n 0, 1) := by decide +kernel
theorem dX4_look_84 : decode cX4_look 84 = .ok (.getfield 65, 3) := by decide +kernel
theorem dX4_look_87 : decode cX4_look 87 = .ok (.iload 4, 2) := by decide +kernel
theorem dX4_look_89 : decode cX4_look 89 = .ok (.iaload, 1) := by decide +kernel
theorem dX4_look_90 : decode cX4_look 90 = .ok (.iconst 2, 1) := by decide +kernel
theorem dX4_look_91 : decode cX4_look 91 = .ok (.if_icmp .ne 7, 3) := by decide +kernel
theorem dX4_look_94 : decode cX4_look 94 = .ok (.iconst 1, 1) := by decide +kernel
theorem dX4_look_95 : decode cX4_look 95 = .ok (.goto 4, 3) := by decide +kernel
theorem dX4_look_98 : decode cX4_look 98 = .ok (.iconst 0, 1) := by decide +kernel
theorem dX4_look_99 : decode cX4_look 99 = .ok (.istore_n 2, 1) := by decide +kernel
theorem dX4_look_100 : decode cX4_look 100 = .ok (.iload_n 3, 1) := by decide +kernel
theorem dX4_look_101 : decode cX4_look 101 = .ok (.ifCond .ne 30, 3) := by decide +kernel
theorem dX4_look_104 : decode cX4_look 104 = .ok (.iload 5, 2) := by decide +kernel
theorem dX4_look_106 : decode cX4_look 106 = .ok (.ifCond .ne 29, 3) := by decide +kernel
theorem dX4_look_109 : decode cX4_look 109 = .ok (.aload_n 0, 1) := by decide +kernel
theorem dX4_look_110 : decode cX4_look 110 = .ok (.getfield 65, 3) := by decide +kernel
theorem dX4_look_113 : decode cX4_look 113 = .ok (.iload 4, 2) := by decide +kernel
theorem dX4_look_115 : decode cX4_look 115 = .ok (.iaload, 1) := by decide +kernel
theorem dX4_look_116 : decode cX4_look 116 = .ok (.iconst 1, 1) := by decide +kernel
theorem dX4_look_117 : decode cX4_look 117 = .ok (.if_icmp .ne 18, 3) := by decide +kernel
theorem dX4_look_120 : decode cX4_look 120 = .ok (.aload_n 0, 1) := by decide +kernel
theorem dX4_look_121 : decode cX4_look 121 = .ok (.getfield 68, 3) := by decide +kernel
theorem dX4_look_124 : decode cX4_look 124 = .ok (.iload 4, 2) := by decide +kernel
theorem dX4_look_126 : decode cX4_look 126 = .ok (.iaload, 1) := by decide +kernel
theorem dX4_look_127 : decode cX4_look 127 = .ok (.iconst 3, 1) := by decide +kernel
theorem dX4_look_128 : decode cX4_look 128 = .ok (.if_icmp .ge 7, 3) := by decide +kernel
theorem dX4_look_131 : decode cX4_look 131 = .ok (.iconst 1, 1) := by decide +kernel
theorem dX4_look_132 : decode cX4_look 132 = .ok (.goto 4, 3) := by decide +kernel
theorem dX4_look_135 : decode cX4_look 135 = .ok (.iconst 0, 1) := by decide +kernel
theorem dX4_look_136 : decode cX4_look 136 = .ok (.istore_n 3, 1) := by decide +kernel
theorem dX4_look_137 : decode cX4_look 137 = .ok (.iinc 4 1, 3) := by decide +kernel
theorem dX4_look_140 : decode cX4_look 140 = .ok (.goto (-131), 3) := by decide +kernel
theorem dX4_look_143 : decode cX4_look 143 = .ok (.aload_n 0, 1) := by decide +kernel
theorem dX4_look_144 : decode cX4_look 144 = .ok (.iload_n 1, 1) := by decide +kernel
theorem dX4_look_145 : decode cX4_look 145 = .ok (.ifCond .eq 14, 3) := by decide +kernel
theorem dX4_look_148 : decode cX4_look 148 = .ok (.aload_n 0, 1) := by decide +kernel
theorem dX4_look_149 : decode cX4_look 149 = .ok (.getfield 154, 3) := by decide +kernel
theorem dX4_look_152 : decode cX4_look 152 = .ok (.ifCond .eq 7, 3) := by decide +kernel
theorem dX4_look_155 : decode cX4_look 155 = .ok (.iconst 1, 1) := by decide +kernel
theorem dX4_look_156 : decode cX4_look 156 = .ok (.goto 20, 3) := by decide +kernel
theorem dX4_look_159 : decode cX4_look 159 = .ok (.iload_n 2, 1) := by decide +kernel
theorem dX4_look_160 : decode cX4_look 160 = .ok (.ifCond .eq 7, 3) := by decide +kernel
theorem dX4_look_163 : decode cX4_look 163 = .ok (.iconst 2, 1) := by decide +kernel
theorem dX4_look_164 : decode cX4_look 164 = .ok (.goto 12, 3) := by decide +kernel
theorem dX4_look_167 : decode cX4_look 167 = .ok (.iload_n 3, 1) := by decide +kernel
theorem dX4_look_168 : decode cX4_look 168 = .ok (.ifCond .eq 7, 3) := by decide +kernel
theorem dX4_look_171 : decode cX4_look 171 = .ok (.iconst 3, 1) := by decide +kernel
theorem dX4_look_172 : decode cX4_look 172 = .ok (.goto 4, 3) := by decide +kernel
theorem dX4_look_175 : decode cX4_look 175 = .ok (.iconst 0, 1) := by decide +kernel
theorem dX4_look_176 : decode cX4_look 176 = .ok (.putfield 157, 3) := by decide +kernel
theorem dX4_look_179 : decode cX4_look 179 = .ok (.aload_n 0, 1) := by decide +kernel
theorem dX4_look_180 : decode cX4_look 180 = .ok (.iload_n 1, 1) := by decide +kernel
theorem dX4_look_181 : decode cX4_look 181 = .ok (.putfield 154, 3) := by decide +kernel
theorem dX4_look_184 : decode cX4_look 184 = .ok (.iconst 0, 1) := by decide +kernel
theorem dX4_look_185 : decode cX4_look 185 = .ok (.istore 4, 2) := by decide +kernel
theorem dX4_look_187 : decode cX4_look 187 = .ok (.iload 4, 2) := by decide +kernel
theorem dX4_look_189 : decode cX4_look 189 = .ok (.bipush 8, 2) := by decide +kernel
theorem dX4_look_191 : decode cX4_look 191 = .ok (.if_icmp .ge 53, 3) := by decide +kernel
theorem dX4_look_194 : decode cX4_look 194 = .ok (.aload_n 0, 1) := by decide +kernel
theorem dX4_look_195 : decode cX4_look 195 = .ok (.getfield 65, 3) := by decide +kernel
theorem dX4_look_198 : decode cX4_look 198 = .ok (.iload 4, 2) := by decide +kernel
theorem dX4_look_200 : decode cX4_look 200 = .ok (.aload_n 0, 1) := by decide +kernel
theorem dX4_look_201 : decode cX4_look 201 = .ok (.iload 4, 2) := by decide +kernel
theorem dX4_look_203 : decode cX4_look 203 = .ok (.invokevirtual 147, 3) := by decide +kernel
theorem dX4_look_206 : decode cX4_look 206 = .ok (.iastore, 1) := by decide +kernel
theorem dX4_look_207 : decode cX4_look 207 = .ok (.aload_n 0, 1) := by decide +kernel
theorem dX4_look_208 : decode cX4_look 208 = .ok (.getfield 68, 3) := by decide +kernel
theorem dX4_look_211 : decode cX4_look 211 = .ok (.iload 4, 2) := by decide +kernel
theorem dX4_look_213 : decode cX4_look 213 = .ok (.aload_n 0, 1) := by decide +kernel
theorem dX4_look_214 : decode cX4_look 214 = .ok (.getfield 65, 3) := by decide +kernel
theorem dX4_look_217 : decode cX4_look 217 = .ok (.iload 4, 2) := by decide +kernel
theorem dX4_look_219 : decode cX4_look 219 = .ok (.iaload, 1) := by decide +kernel
theorem dX4_look_220 : decode cX4_look 220 = .ok (.iconst 1, 1) := by decide +kernel
theorem dX4_look_221 : decode cX4_look 221 = .ok (.if_icmp .ne 15, 3) := by decide +kernel
theorem dX4_look_224 : decode cX4_look 224 = .ok (.aload_n 0, 1) := by decide +kernel
theorem dX4_look_225 : decode cX4_look 225 = .ok (.getfield 68, 3) := by decide +kernel
theorem dX4_look_228 : decode cX4_look 228 = .ok (.iload 4, 2) := by decide +kernel
theorem dX4_look_230 : decode cX4_look 230 = .ok (.iaload, 1) := by decide +kernel
theorem dX4_look_231 : decode cX4_look 231 = .ok (.iconst 1, 1) := by decide +kernel
theorem dX4_look_232 : decode cX4_look 232 = .ok (.iadd, 1) := by decide +kernel
theorem dX4_look_233 : decode cX4_look 233 = .ok (.goto 4, 3) := by decide +kernel
theorem dX4_look_236 : decode cX4_look 236 = .ok (.iconst 0, 1) := by decide +kernel
theorem dX4_look_237 : decode cX4_look 237 = .ok (.iastore, 1) := by decide +kernel
theorem dX4_look_238 : decode cX4_look 238 = .ok (.iinc 4 1, 3) := by decide +kernel
theorem dX4_look_241 : decode cX4_look 241 = .ok (.goto (-54), 3) := by decide +kernel
theorem dX4_look_244 : decode cX4_look 244 = .ok (.return_, 1) := by decide +kernel
theorem dX4_allGreens_0 : decode cX4_allGreens 0 = .ok (.iconst 0, 1) := by decide +kernel
theorem dX4_allGreens_1 : decode cX4_allGreens 1 = .ok (.istore_n 1, 1) := by decide +kernel
theorem dX4_allGreens_2 : decode cX4_allGreens 2 = .ok (.iconst 0, 1) := by decide +kernel
theorem dX4_allGreens_3 : decode cX4_allGreens 3 = .ok (.istore_n 2, 1) := by decide +kernel
theorem dX4_allGreens_4 : decode cX4_allGreens 4 = .ok (.iload_n 2, 1) := by decide +kernel
theorem dX4_allGreens_5 : decode cX4_allGreens 5 = .ok (.bipush 8, 2) := by decide +kernel
theorem dX4_allGreens_7 : decode cX4_allGreens 7 = .ok (.if_icmp .ge 18, 3) := by decide +kernel
theorem dX4_allGreens_10 : decode cX4_allGreens 10 = .ok (.iload_n 1, 1) := by decide +kernel
theorem dX4_allGreens_11 : decode cX4_allGreens 11 = .ok (.aload_n 0, 1) := by decide +kernel
theorem dX4_allGreens_12 : decode cX4_allGreens 12 = .ok (.getfield 32, 3) := by decide +kernel
theorem dX4_allGreens_15 : decode cX4_allGreens 15 = .ok (.iload_n 2, 1) := by decide +kernel
theorem dX4_allGreens_16 : decode cX4_allGreens 16 = .ok (.iaload, 1) := by decide +kernel
theorem dX4_allGreens_17 : decode cX4_allGreens 17 = .ok (.iadd, 1) := by decide +kernel
theorem dX4_allGreens_18 : decode cX4_allGreens 18 = .ok (.istore_n 1, 1) := by decide +kernel
theorem dX4_allGreens_19 : decode cX4_allGreens 19 = .ok (.iinc 2 1, 3) := by decide +kernel
theorem dX4_allGreens_22 : decode cX4_allGreens 22 = .ok (.goto (-18), 3) := by decide +kernel
theorem dX4_allGreens_25 : decode cX4_allGreens 25 = .ok (.iload_n 1, 1) := by decide +kernel
theorem dX4_allGreens_26 : decode cX4_allGreens 26 = .ok (.ireturn, 1) := by decide +kernel
theorem dX4_run_0 : decode cX4_run 0 = .ok (.aload_n 0, 1) := by decide +kernel
theorem dX4_run_1 : decode cX4_run 1 = .ok (.iconst 0, 1) := by decide +kernel
theorem dX4_run_2 : decode cX4_run 2 = .ok (.putfield 71, 3) := by decide +kernel
theorem dX4_run_5 : decode cX4_run 5 = .ok (.iload_n 1, 1) := by decide +kernel
theorem dX4_run_6 : decode cX4_run 6 = .ok (.ifCond .lt 10, 3) := by decide +kernel
theorem dX4_run_9 : decode cX4_run 9 = .ok (.iload_n 1, 1) := by decide +kernel
theorem dX4_run_10 : decode cX4_run 10 = .ok (.sipush 500, 3) := by decide +kernel
theorem dX4_run_13 : decode cX4_run 13 = .ok (.if_icmp .le 5, 3) := by decide +kernel
theorem dX4_run_16 : decode cX4_run 16 = .ok (.iconst (-1), 1) := by decide +kernel
theorem dX4_run_17 : decode cX4_run 17 = .ok (.ireturn, 1) := by decide +kernel
theorem dX4_run_18 : decode cX4_run 18 = .ok (.aload_n 0, 1) := by decide +kernel
theorem dX4_run_19 : decode cX4_run 19 = .ok (.invokevirtual 160, 3) := by decide +kernel
theorem dX4_run_22 : decode cX4_run 22 = .ok (.istore_n 2, 1) := by decide +kernel
theorem dX4_run_23 : decode cX4_run 23 = .ok (.iconst 0, 1) := by decide +kernel
theorem dX4_run_24 : decode cX4_run 24 = .ok (.istore_n 3, 1) := by decide +kernel
theorem dX4_run_25 : decode cX4_run 25 = .ok (.iload_n 3, 1) := by decide +kernel
theorem dX4_run_26 : decode cX4_run 26 = .ok (.iload_n 1, 1) := by decide +kernel
theorem dX4_run_27 : decode cX4_run 27 = .ok (.if_icmp .ge 34, 3) := by decide +kernel
theorem dX4_run_30 : decode cX4_run 30 = .ok (.aload_n 0, 1) := by decide +kernel
theorem dX4_run_31 : decode cX4_run 31 = .ok (.dup, 1) := by decide +kernel
theorem dX4_run_32 : decode cX4_run 32 = .ok (.getfield 164, 3) := by decide +kernel
theorem dX4_run_35 : decode cX4_run 35 = .ok (.iconst 1, 1) := by decide +kernel
theorem dX4_run_36 : decode cX4_run 36 = .ok (.iadd, 1) := by decide +kernel
theorem dX4_run_37 : decode cX4_run 37 = .ok (.putfield 164, 3) := by decide +kernel
theorem dX4_run_40 : decode cX4_run 40 = .ok (.aload_n 0, 1) := by decide +kernel
theorem dX4_run_41 : decode cX4_run 41 = .ok (.getfield 157, 3) := by decide +kernel
theorem dX4_run_44 : decode cX4_run 44 = .ok (.ifCond .ne 11, 3) := by decide +kernel
theorem dX4_run_47 : decode cX4_run 47 = .ok (.aload_n 0, 1) := by decide +kernel
theorem dX4_run_48 : decode cX4_run 48 = .ok (.invokevirtual 167, 3) := by decide +kernel
theorem dX4_run_51 : decode cX4_run 51 = .ok (.aload_n 0, 1) := by decide +kernel
theorem dX4_run_52 : decode cX4_run 52 = .ok (.invokevirtual 170, 3) := by decide +kernel
theorem dX4_run_55 : decode cX4_run 55 = .ok (.iinc 3 1, 3) := by decide +kernel
theorem dX4_run_58 : decode cX4_run 58 = .ok (.goto (-33), 3) := by decide +kernel
theorem dX4_run_61 : decode cX4_run 61 = .ok (.aload_n 0, 1) := by decide +kernel
theorem dX4_run_62 : decode cX4_run 62 = .ok (.invokevirtual 160, 3) := by decide +kernel
theorem dX4_run_65 : decode cX4_run 65 = .ok (.iload_n 2, 1) := by decide +kernel
theorem dX4_run_66 : decode cX4_run 66 = .ok (.isub, 1) := by decide +kernel
theorem dX4_run_67 : decode cX4_run 67 = .ok (.ireturn, 1) := by decide +kernel
theorem dX4_restart_0 : decode cX4_restart 0 = .ok (.aload_n 0, 1) := by decide +kernel
theorem dX4_restart_1 : decode cX4_restart 1 = .ok (.iconst 0, 1) := by decide +kernel
theorem dX4_restart_2 : decode cX4_restart 2 = .ok (.putfield 71, 3) := by decide +kernel
theorem dX4_restart_5 : decode cX4_restart 5 = .ok (.aload_n 0, 1) := by decide +kernel
theorem dX4_restart_6 : decode cX4_restart 6 = .ok (.getfield 157, 3) := by decide +kernel
theorem dX4_restart_9 : decode cX4_restart 9 = .ok (.ifCond .ne 5, 3) := by decide +kernel
theorem dX4_restart_12 : decode cX4_restart 12 = .ok (.iconst 0, 1) := by decide +kernel
theorem dX4_restart_13 : decode cX4_restart 13 = .ok (.ireturn, 1) := by decide +kernel
theorem dX4_restart_14 : decode cX4_restart 14 = .ok (.aload_n 0, 1) := by decide +kernel
theorem dX4_restart_15 : decode cX4_restart 15 = .ok (.iconst 0, 1) := by decide +kernel
theorem dX4_restart_16 : decode cX4_restart 16 = .ok (.putfield 157, 3) := by decide +kernel
theorem dX4_restart_19 : decode cX4_restart 19 = .ok (.aload_n 0, 1) := by decide +kernel
theorem dX4_restart_20 : decode cX4_restart 20 = .ok (.iconst 0, 1) := by decide +kernel
theorem dX4_restart_21 : decode cX4_restart 21 = .ok (.putfield 119, 3) := by decide +kernel
theorem dX4_restart_24 : decode cX4_restart 24 = .ok (.aload_n 0, 1) := by decide +kernel
theorem dX4_restart_25 : decode cX4_restart 25 = .ok (.iconst 0, 1) := by decide +kernel
theorem dX4_restart_26 : decode cX4_restart 26 = .ok (.putfield 113, 3) := by decide +kernel
theorem dX4_restart_29 : decode cX4_restart 29 = .ok (.aload_n 0, 1) := by decide +kernel
theorem dX4_restart_30 : decode cX4_restart 30 = .ok (.iconst 0, 1) := by decide +kernel
theorem dX4_restart_31 : decode cX4_restart 31 = .ok (.putfield 154, 3) := by decide +kernel
theorem dX4_restart_34 : decode cX4_restart 34 = .ok (.iconst 0, 1) := by decide +kernel
theorem dX4_restart_35 : decode cX4_restart 35 = .ok (.istore_n 1, 1) := by decide +kernel
theorem dX4_restart_36 : decode cX4_restart 36 = .ok (.iload_n 1, 1) := by decide +kernel
theorem dX4_restart_37 : decode cX4_restart 37 = .ok (.iconst 2, 1) := by decide +kernel
theorem dX4_restart_38 : decode cX4_restart 38 = .ok (.if_icmp .ge 21, 3) := by decide +kernel
theorem dX4_restart_41 : decode cX4_restart 41 = .ok (.aload_n 0, 1) := by decide +kernel
theorem dX4_restart_42 : decode cX4_restart 42 = .ok (.iload_n 1, 1) := by decide +kernel
theorem dX4_restart_43 : decode cX4_restart 43 = .ok (.invokevirtual 106, 3) := by decide +kernel
theorem dX4_restart_46 : decode cX4_restart 46 = .ok (.aload_n 0, 1) := by decide +kernel
theorem dX4_restart_47 : decode cX4_restart 47 = .ok (.getfield 44, 3) := by decide +kernel
theorem dX4_restart_50 : decode cX4_restart 50 = .ok (.iload_n 1, 1) := by decide +kernel
theorem dX4_restart_51 : decode cX4_restart 51 = .ok (.iconst (-1), 1) := by decide +kernel
theorem dX4_restart_52 : decode cX4_restart 52 = .ok (.iastore, 1) := by decide +kernel
theorem dX4_restart_53 : decode cX4_restart 53 = .ok (.iinc 1 1, 3) := by decide +kernel
theorem dX4_restart_56 : decode cX4_restart 56 = .ok (.goto (-20), 3) := by decide +kernel
theorem dX4_restart_59 : decode cX4_restart 59 = .ok (.iconst 0, 1) := by decide +kernel
theorem dX4_restart_60 : decode cX4_restart 60 = .ok (.istore_n 1, 1) := by decide +kernel
theorem dX4_restart_61 : decode cX4_restart 61 = .ok (.iload_n 1, 1) := by decide +kernel
theorem dX4_restart_62 : decode cX4_restart 62 = .ok (.bipush 8, 2) := by decide +kernel
theorem dX4_restart_64 : decode cX4_restart 64 = .ok (.if_icmp .ge 23, 3) := by decide +kernel
theorem dX4_restart_67 : decode cX4_restart 67 = .ok (.aload_n 0, 1) := by decide +kernel
theorem dX4_restart_68 : decode cX4_restart 68 = .ok (.getfield 65, 3) := by decide +kernel
theorem dX4_restart_71 : decode cX4_restart 71 = .ok (.iload_n 1, 1) := by decide +kernel
theorem dX4_restart_72 : decode cX4_restart 72 = .ok (.iconst (-1), 1) := by decide +kernel
theorem dX4_restart_73 : decode cX4_restart 73 = .ok (.iastore, 1) := by decide +kernel
theorem dX4_restart_74 : decode cX4_restart 74 = .ok (.aload_n 0, 1) := by decide +kernel
theorem dX4_restart_75 : decode cX4_restart 75 = .ok (.getfield 68, 3) := by decide +kernel
theorem dX4_restart_78 : decode cX4_restart 78 = .ok (.iload_n 1, 1) := by decide +kernel
theorem dX4_restart_79 : decode cX4_restart 79 = .ok (.iconst 0, 1) := by decide +kernel
theorem dX4_restart_80 : decode cX4_restart 80 = .ok (.iastore, 1) := by decide +kernel
theorem dX4_restart_81 : decode cX4_restart 81 = .ok (.iinc 1 1, 3) := by decide +kernel
theorem dX4_restart_84 : decode cX4_restart 84 = .ok (.goto (-23), 3) := by decide +kernel
theorem dX4_restart_87 : decode cX4_restart 87 = .ok (.iconst 1, 1) := by decide +kernel
theorem dX4_restart_88 : decode cX4_restart 88 = .ok (.ireturn, 1) := by decide +kernel
theorem dX4_of_0 : decode cX4_of 0 = .ok (.aload_n 0, 1) := by decide +kernel
theorem dX4_of_1 : decode cX4_of 1 = .ok (.iconst 0, 1) := by decide +kernel
theorem dX4_of_2 : decode cX4_of 2 = .ok (.putfield 71, 3) := by decide +kernel
theorem dX4_of_5 : decode cX4_of 5 = .ok (.iload_n 1, 1) := by decide +kernel
theorem dX4_of_6 : decode cX4_of 6 = .ok (.invokestatic 83, 3) := by decide +kernel
theorem dX4_of_9 : decode cX4_of 9 = .ok (.ifCond .ne 5, 3) := by decide +kernel
theorem dX4_of_12 : decode cX4_of 12 = .ok (.iconst (-1), 1) := by decide +kernel
theorem dX4_of_13 : decode cX4_of 13 = .ok (.ireturn, 1) := by decide +kernel
theorem dX4_of_14 : decode cX4_of 14 = .ok (.iload_n 1, 1) := by decide +kernel
theorem dX4_of_15 : decode cX4_of 15 = .ok (.iconst 4, 1) := by decide +kernel
theorem dX4_of_16 : decode cX4_of 16 = .ok (.idiv, 1) := by decide +kernel
theorem dX4_of_17 : decode cX4_of 17 = .ok (.istore_n 3, 1) := by decide +kernel
theorem dX4_of_18 : decode cX4_of 18 = .ok (.iload_n 2, 1) := by decide +kernel
theorem dX4_of_19 : decode cX4_of 19 = .ok (.tableswitch 188 0 8 #[49, 66, 108, 122, 129, 136, 143, 158, 173], 49) := by decide +kernel
theorem dX4_of_68 : decode cX4_of 68 = .ok (.aload_n 0, 1) := by decide +kernel
theorem dX4_of_69 : decode cX4_of 69 = .ok (.getfield 157, 3) := by decide +kernel
theorem dX4_of_72 : decode cX4_of 72 = .ok (.ifCond .le 7, 3) := by decide +kernel
theorem dX4_of_75 : decode cX4_of 75 = .ok (.iconst 3, 1) := by decide +kernel
theorem dX4_of_76 : decode cX4_of 76 = .ok (.goto 8, 3) := by decide +kernel
theorem dX4_of_79 : decode cX4_of 79 = .ok (.aload_n 0, 1) := by decide +kernel
theorem dX4_of_80 : decode cX4_of 80 = .ok (.iload_n 1, 1) := by decide +kernel
theorem dX4_of_81 : decode cX4_of 81 = .ok (.invokevirtual 147, 3) := by decide +kernel
theorem dX4_of_84 : decode cX4_of 84 = .ok (.ireturn, 1) := by decide +kernel
theorem dX4_of_85 : decode cX4_of 85 = .ok (.aload_n 0, 1) := by decide +kernel
theorem dX4_of_86 : decode cX4_of 86 = .ok (.getfield 41, 3) := by decide +kernel
theorem dX4_of_89 : decode cX4_of 89 = .ok (.iload_n 3, 1) := by decide +kernel
theorem dX4_of_90 : decode cX4_of 90 = .ok (.iaload, 1) := by decide +kernel
theorem dX4_of_91 : decode cX4_of 91 = .ok (.iload_n 1, 1) := by decide +kernel
theorem dX4_of_92 : decode cX4_of 92 = .ok (.if_icmp .eq 7, 3) := by decide +kernel
theorem dX4_of_95 : decode cX4_of 95 = .ok (.iconst 0, 1) := by decide +kernel
theorem dX4_of_96 : decode cX4_of 96 = .ok (.goto 30, 3) := by decide +kernel
theorem dX4_of_99 : decode cX4_of 99 = .ok (.aload_n 0, 1) := by decide +kernel
theorem dX4_of_100 : decode cX4_of 100 = .ok (.getfield 59, 3) := by decide +kernel
theorem dX4_of_103 : decode cX4_of 103 = .ok (.iload_n 3, 1) := by decide +kernel
theorem dX4_of_104 : decode cX4_of 104 = .ok (.iaload, 1) := by decide +kernel
theorem dX4_of_105 : decode cX4_of 105 = .ok (.ifCond .le 7, 3) := by decide +kernel
theorem dX4_of_108 : decode cX4_of 108 = .ok (.iconst 1, 1) := by decide +kernel
theorem dX4_of_109 : decode cX4_of 109 = .ok (.goto 17, 3) := by decide +kernel
theorem dX4_of_112 : decode cX4_of 112 = .ok (.aload_n 0, 1) := by decide +kernel
theorem dX4_of_113 : decode cX4_of 113 = .ok (.getfield 62, 3) := by decide +kernel
theorem dX4_of_116 : decode cX4_of 116 = .ok (.iload_n 3, 1) := by decide +kernel
theorem dX4_of_117 : decode cX4_of 117 = .ok (.iaload, 1) := by decide +kernel
theorem dX4_of_118 : decode cX4_of 118 = .ok (.ifCond .le 7, 3) := by decide +kernel
theorem dX4_of_121 : decode cX4_of 121 = .ok (.iconst 2, 1) := by decide +kernel
theorem dX4_of_122 : decode cX4_of 122 = .ok (.goto 4, 3) := by decide +kernel
theorem dX4_of_125 : decode cX4_of 125 = .ok (.iconst 0, 1) := by decide +kernel
theorem dX4_of_126 : decode cX4_of 126 = .ok (.ireturn, 1) := by decide +kernel
theorem dX4_of_127 : decode cX4_of 127 = .ok (.aload_n 0, 1) := by decide +kernel
theorem dX4_of_128 : decode cX4_of 128 = .ok (.iload_n 1, 1) := by decide +kernel
theorem dX4_of_129 : decode cX4_of 129 = .ok (.invokevirtual 100, 3) := by decide +kernel
theorem dX4_of_132 : decode cX4_of 132 = .ok (.ifCond .eq 7, 3) := by decide +kernel
theorem dX4_of_135 : decode cX4_of 135 = .ok (.iconst 1, 1) := by decide +kernel
theorem dX4_of_136 : decode cX4_of 136 = .ok (.goto 4, 3) := by decide +kernel
theorem dX4_of_139 : decode cX4_of 139 = .ok (.iconst 0, 1) := by decide +kernel
theorem dX4_of_140 : decode cX4_of 140 = .ok (.ireturn, 1) := by decide +kernel
theorem dX4_of_141 : decode cX4_of 141 = .ok (.aload_n 0, 1) := by decide +kernel
theorem dX4_of_142 : decode cX4_of 142 = .ok (.getfield 26, 3) := by decide +kernel
theorem dX4_of_145 : decode cX4_of 145 = .ok (.iload_n 1, 1) := by decide +kernel
theorem dX4_of_146 : decode cX4_of 146 = .ok (.iaload, 1) := by decide +kernel
theorem dX4_of_147 : decode cX4_of 147 = .ok (.ireturn, 1) := by decide +kernel
theorem dX4_of_148 : decode cX4_of 148 = .ok (.aload_n 0, 1) := by decide +kernel
theorem dX4_of_149 : decode cX4_of 149 = .ok (.getfield 29, 3) := by decide +kernel
theorem dX4_of_152 : decode cX4_of 152 = .ok (.iload_n 1, 1) := by decide +kernel
theorem dX4_of_153 : decode cX4_of 153 = .ok (.iaload, 1) := by decide +kernel
theorem dX4_of_154 : decode cX4_of 154 = .ok (.ireturn, 1) := by decide +kernel
theorem dX4_of_155 : decode cX4_of 155 = .ok (.aload_n 0, 1) := by decide +kernel
theorem dX4_of_156 : decode cX4_of 156 = .ok (.getfield 32, 3) := by decide +kernel
theorem dX4_of_159 : decode cX4_of 159 = .ok (.iload_n 1, 1) := by decide +kernel
theorem dX4_of_160 : decode cX4_of 160 = .ok (.iaload, 1) := by decide +kernel
theorem dX4_of_161 : decode cX4_of 161 = .ok (.ireturn, 1) := by decide +kernel
theorem dX4_of_162 : decode cX4_of 162 = .ok (.aload_n 0, 1) := by decide +kernel
theorem dX4_of_163 : decode cX4_of 163 = .ok (.getfield 16, 3) := by decide +kernel
theorem dX4_of_166 : decode cX4_of 166 = .ok (.iload_n 1, 1) := by decide +kernel
theorem dX4_of_167 : decode cX4_of 167 = .ok (.baload, 1) := by decide +kernel
theorem dX4_of_168 : decode cX4_of 168 = .ok (.ifCond .eq 7, 3) := by decide +kernel
theorem dX4_of_171 : decode cX4_of 171 = .ok (.iconst 1, 1) := by decide +kernel
theorem dX4_of_172 : decode cX4_of 172 = .ok (.goto 4, 3) := by decide +kernel
theorem dX4_of_175 : decode cX4_of 175 = .ok (.iconst 0, 1) := by decide +kernel
theorem dX4_of_176 : decode cX4_of 176 = .ok (.ireturn, 1) := by decide +kernel
theorem dX4_of_177 : decode cX4_of 177 = .ok (.aload_n 0, 1) := by decide +kernel
theorem dX4_of_178 : decode cX4_of 178 = .ok (.getfield 20, 3) := by decide +kernel
theorem dX4_of_181 : decode cX4_of 181 = .ok (.iload_n 1, 1) := by decide +kernel
theorem dX4_of_182 : decode cX4_of 182 = .ok (.baload, 1) := by decide +kernel
theorem dX4_of_183 : decode cX4_of 183 = .ok (.ifCond .eq 7, 3) := by decide +kernel
theorem dX4_of_186 : decode cX4_of 186 = .ok (.iconst 1, 1) := by decide +kernel
theorem dX4_of_187 : decode cX4_of 187 = .ok (.goto 4, 3) := by decide +kernel
theorem dX4_of_190 : decode cX4_of 190 = .ok (.iconst 0, 1) := by decide +kernel
theorem dX4_of_191 : decode cX4_of 191 = .ok (.ireturn, 1) := by decide +kernel
theorem dX4_of_192 : decode cX4_of 192 = .ok (.aload_n 0, 1) := by decide +kernel
theorem dX4_of_193 : decode cX4_of 193 = .ok (.getfield 23, 3) := by decide +kernel
theorem dX4_of_196 : decode cX4_of 196 = .ok (.iload_n 1, 1) := by decide +kernel
theorem dX4_of_197 : decode cX4_of 197 = .ok (.baload, 1) := by decide +kernel
theorem dX4_of_198 : decode cX4_of 198 = .ok (.ifCond .eq 7, 3) := by decide +kernel
theorem dX4_of_201 : decode cX4_of 201 = .ok (.iconst 1, 1) := by decide +kernel
theorem dX4_of_202 : decode cX4_of 202 = .ok (.goto 4, 3) := by decide +kernel
theorem dX4_of_205 : decode cX4_of 205 = .ok (.iconst 0, 1) := by decide +kernel
theorem dX4_of_206 : decode cX4_of 206 = .ok (.ireturn, 1) := by decide +kernel
theorem dX4_of_207 : decode cX4_of 207 = .ok (.iconst (-1), 1) := by decide +kernel
theorem dX4_of_208 : decode cX4_of 208 = .ok (.ireturn, 1) := by decide +kernel
theorem dX4_ring_0 : decode cX4_ring 0 = .ok (.aload_n 0, 1) := by decide +kernel
theorem dX4_ring_1 : decode cX4_ring 1 = .ok (.iconst 0, 1) := by decide +kernel
theorem dX4_ring_2 : decode cX4_ring 2 = .ok (.putfield 71, 3) := by decide +kernel
theorem dX4_ring_5 : decode cX4_ring 5 = .ok (.iload_n 1, 1) := by decide +kernel
theorem dX4_ring_6 : decode cX4_ring 6 = .ok (.ifCond .lt 8, 3) := by decide +kernel
theorem dX4_ring_9 : decode cX4_ring 9 = .ok (.iload_n 1, 1) := by decide +kernel
theorem dX4_ring_10 : decode cX4_ring 10 = .ok (.iconst 1, 1) := by decide +kernel
theorem dX4_ring_11 : decode cX4_ring 11 = .ok (.if_icmp .le 5, 3) := by decide +kernel
theorem dX4_ring_14 : decode cX4_ring 14 = .ok (.iconst (-1), 1) := by decide +kernel
theorem dX4_ring_15 : decode cX4_ring 15 = .ok (.ireturn, 1) := by decide +kernel
theorem dX4_ring_16 : decode cX4_ring 16 = .ok (.aload_n 0, 1) := by decide +kernel
theorem dX4_ring_17 : decode cX4_ring 17 = .ok (.getfield 47, 3) := by decide +kernel
theorem dX4_ring_20 : decode cX4_ring 20 = .ok (.iload_n 1, 1) := by decide +kernel
theorem dX4_ring_21 : decode cX4_ring 21 = .ok (.iaload, 1) := by decide +kernel
theorem dX4_ring_22 : decode cX4_ring 22 = .ok (.iconst 1, 1) := by decide +kernel
theorem dX4_ring_23 : decode cX4_ring 23 = .ok (.if_icmp .ne 7, 3) := by decide +kernel
theorem dX4_ring_26 : decode cX4_ring 26 = .ok (.iconst 1, 1) := by decide +kernel
theorem dX4_ring_27 : decode cX4_ring 27 = .ok (.goto 4, 3) := by decide +kernel
theorem dX4_ring_30 : decode cX4_ring 30 = .ok (.iconst 0, 1) := by decide +kernel
theorem dX4_ring_31 : decode cX4_ring 31 = .ok (.istore_n 3, 1) := by decide +kernel
theorem dX4_ring_32 : decode cX4_ring 32 = .ok (.iload_n 2, 1) := by decide +kernel
theorem dX4_ring_33 : decode cX4_ring 33 = .ok (.ifCond .ne 12, 3) := by decide +kernel
theorem dX4_ring_36 : decode cX4_ring 36 = .ok (.aload_n 0, 1) := by decide +kernel
theorem dX4_ring_37 : decode cX4_ring 37 = .ok (.getfield 41, 3) := by decide +kernel
theorem dX4_ring_40 : decode cX4_ring 40 = .ok (.iload_n 1, 1) := by decide +kernel
theorem dX4_ring_41 : decode cX4_ring 41 = .ok (.iaload, 1) := by decide +kernel
theorem dX4_ring_42 : decode cX4_ring 42 = .ok (.goto 112, 3) := by decide +kernel
theorem dX4_ring_45 : decode cX4_ring 45 = .ok (.iload_n 2, 1) := by decide +kernel
theorem dX4_ring_46 : decode cX4_ring 46 = .ok (.iconst 1, 1) := by decide +kernel
theorem dX4_ring_47 : decode cX4_ring 47 = .ok (.if_icmp .ne 12, 3) := by decide +kernel
theorem dX4_ring_50 : decode cX4_ring 50 = .ok (.aload_n 0, 1) := by decide +kernel
theorem dX4_ring_51 : decode cX4_ring 51 = .ok (.getfield 47, 3) := by decide +kernel
theorem dX4_ring_54 : decode cX4_ring 54 = .ok (.iload_n 1, 1) := by decide +kernel
theorem dX4_ring_55 : decode cX4_ring 55 = .ok (.iaload, 1) := by decide +kernel
theorem dX4_ring_56 : decode cX4_ring 56 = .ok (.goto 98, 3) := by decide +kernel
theorem dX4_ring_59 : decode cX4_ring 59 = .ok (.iload_n 2, 1) := by decide +kernel
theorem dX4_ring_60 : decode cX4_ring 60 = .ok (.iconst 2, 1) := by decide +kernel
theorem dX4_ring_61 : decode cX4_ring 61 = .ok (.if_icmp .ne 12, 3) := by decide +kernel
theorem dX4_ring_64 : decode cX4_ring 64 = .ok (.aload_n 0, 1) := by decide +kernel
theorem dX4_ring_65 : decode cX4_ring 65 = .ok (.getfield 50, 3) := by decide +kernel
theorem dX4_ring_68 : decode cX4_ring 68 = .ok (.iload_n 1, 1) := by decide +kernel
theorem dX4_ring_69 : decode cX4_ring 69 = .ok (.iaload, 1) := by decide +kernel
theorem dX4_ring_70 : decode cX4_ring 70 = .ok (.goto 84, 3) := by decide +kernel
theorem dX4_ring_73 : decode cX4_ring 73 = .ok (.iload_n 2, 1) := by decide +kernel
theorem dX4_ring_74 : decode cX4_ring 74 = .ok (.iconst 3, 1) := by decide +kernel
theorem dX4_ring_75 : decode cX4_ring 75 = .ok (.if_icmp .ne 20, 3) := by decide +kernel
theorem dX4_ring_78 : decode cX4_ring 78 = .ok (.iload_n 3, 1) := by decide +kernel
theorem dX4_ring_79 : decode cX4_ring 79 = .ok (.ifCond .eq 12, 3) := by decide +kernel
theorem dX4_ring_82 : decode cX4_ring 82 = .ok (.aload_n 0, 1) := by decide +kernel
theorem dX4_ring_83 : decode cX4_ring 83 = .ok (.getfield 53, 3) := by decide +kernel
theorem dX4_ring_86 : decode cX4_ring 86 = .ok (.iload_n 1, 1) := by decide +kernel
theorem dX4_ring_87 : decode cX4_ring 87 = .ok (.iaload, 1) := by decide +kernel
theorem dX4_ring_88 : decode cX4_ring 88 = .ok (.goto 66, 3) := by decide +kernel
theorem dX4_ring_91 : decode cX4_ring 91 = .ok (.iconst 0, 1) := by decide +kernel
theorem dX4_ring_92 : decode cX4_ring 92 = .ok (.goto 62, 3) := by decide +kernel
theorem dX4_ring_95 : decode cX4_ring 95 = .ok (.iload_n 2, 1) := by decide +kernel
theorem dX4_ring_96 : decode cX4_ring 96 = .ok (.iconst 4, 1) := by decide +kernel
theorem dX4_ring_97 : decode cX4_ring 97 = .ok (.if_icmp .ne 20, 3) := by decide +kernel
theorem dX4_ring_100 : decode cX4_ring 100 = .ok (.iload_n 3, 1) := by decide +kernel
theorem dX4_ring_101 : decode cX4_ring 101 = .ok (.ifCond .eq 12, 3) := by decide +kernel
theorem dX4_ring_104 : decode cX4_ring 104 = .ok (.aload_n 0, 1) := by decide +kernel
theorem dX4_ring_105 : decode cX4_ring 105 = .ok (.getfield 56, 3) := by decide +kernel
theorem dX4_ring_108 : decode cX4_ring 108 = .ok (.iload_n 1, 1) := by decide +kernel
theorem dX4_ring_109 : decode cX4_ring 109 = .ok (.iaload, 1) := by decide +kernel
theorem dX4_ring_110 : decode cX4_ring 110 = .ok (.goto 44, 3) := by decide +kernel
theorem dX4_ring_113 : decode cX4_ring 113 = .ok (.iconst 0, 1) := by decide +kernel
theorem dX4_ring_114 : decode cX4_ring 114 = .ok (.goto 40, 3) := by decide +kernel
theorem dX4_ring_117 : decode cX4_ring 117 = .ok (.iload_n 2, 1) := by decide +kernel
theorem dX4_ring_118 : decode cX4_ring 118 = .ok (.iconst 5, 1) := by decide +kernel
theorem dX4_ring_119 : decode cX4_ring 119 = .ok (.if_icmp .ne 19, 3) := by decide +kernel
theorem dX4_ring_122 : decode cX4_ring 122 = .ok (.aload_n 0, 1) := by decide +kernel
theorem dX4_ring_123 : decode cX4_ring 123 = .ok (.iload_n 1, 1) := by decide +kernel
theorem dX4_ring_124 : decode cX4_ring 124 = .ok (.invokevirtual 110, 3) := by decide +kernel
theorem dX4_ring_127 : decode cX4_ring 127 = .ok (.ifCond .eq 7, 3) := by decide +kernel
theorem dX4_ring_130 : decode cX4_ring 130 = .ok (.iconst 1, 1) := by decide +kernel
theorem dX4_ring_131 : decode cX4_ring 131 = .ok (.goto 23, 3) := by decide +kernel
theorem dX4_ring_134 : decode cX4_ring 134 = .ok (.iconst 0, 1) := by decide +kernel
theorem dX4_ring_135 : decode cX4_ring 135 = .ok (.goto 19, 3) := by decide +kernel
theorem dX4_ring_138 : decode cX4_ring 138 = .ok (.iload_n 2, 1) := by decide +kernel
theorem dX4_ring_139 : decode cX4_ring 139 = .ok (.bipush 6, 2) := by decide +kernel
theorem dX4_ring_141 : decode cX4_ring 141 = .ok (.if_icmp .ne 12, 3) := by decide +kernel
theorem dX4_ring_144 : decode cX4_ring 144 = .ok (.aload_n 0, 1) := by decide +kernel
theorem dX4_ring_145 : decode cX4_ring 145 = .ok (.getfield 44, 3) := by decide +kernel
theorem dX4_ring_148 : decode cX4_ring 148 = .ok (.iload_n 1, 1) := by decide +kernel
theorem dX4_ring_149 : decode cX4_ring 149 = .ok (.iaload, 1) := by decide +kernel
theorem dX4_ring_150 : decode cX4_ring 150 = .ok (.goto 4, 3) := by decide +kernel
theorem dX4_ring_153 : decode cX4_ring 153 = .ok (.iconst (-1), 1) := by decide +kernel
theorem dX4_ring_154 : decode cX4_ring 154 = .ok (.ireturn, 1) := by decide +kernel
theorem dX4_state_0 : decode cX4_state 0 = .ok (.aload_n 0, 1) := by decide +kernel
theorem dX4_state_1 : decode cX4_state 1 = .ok (.iconst 0, 1) := by decide +kernel
theorem dX4_state_2 : decode cX4_state 2 = .ok (.putfield 71, 3) := by decide +kernel
theorem dX4_state_5 : decode cX4_state 5 = .ok (.iload_n 1, 1) := by decide +kernel
theorem dX4_state_6 : decode cX4_state 6 = .ok (.ifCond .ne 10, 3) := by decide +kernel
theorem dX4_state_9 : decode cX4_state 9 = .ok (.aload_n 0, 1) := by decide +kernel
theorem dX4_state_10 : decode cX4_state 10 = .ok (.getfield 164, 3) := by decide +kernel
theorem dX4_state_13 : decode cX4_state 13 = .ok (.goto 60, 3) := by decide +kernel
theorem dX4_state_16 : decode cX4_state 16 = .ok (.iload_n 1, 1) := by decide +kernel
theorem dX4_state_17 : decode cX4_state 17 = .ok (.iconst 1, 1) := by decide +kernel
theorem dX4_state_18 : decode cX4_state 18 = .ok (.if_icmp .ne 10, 3) := by decide +kernel
theorem dX4_state_21 : decode cX4_state 21 = .ok (.aload_n 0, 1) := by decide +kernel
theorem dX4_state_22 : decode cX4_state 22 = .ok (.getfield 113, 3) := by decide +kernel
theorem dX4_state_25 : decode cX4_state 25 = .ok (.goto 48, 3) := by decide +kernel
theorem dX4_state_28 : decode cX4_state 28 = .ok (.iload_n 1, 1) := by decide +kernel
theorem dX4_state_29 : decode cX4_state 29 = .ok (.iconst 2, 1) := by decide +kernel
theorem dX4_state_30 : decode cX4_state 30 = .ok (.if_icmp .ne 18, 3) := by decide +kernel
theorem dX4_state_33 : decode cX4_state 33 = .ok (.aload_n 0, 1) := by decide +kernel
theorem dX4_state_34 : decode cX4_state 34 = .ok (.getfield 119, 3) := by decide +kernel
theorem dX4_state_37 : decode cX4_state 37 = .ok (.ifCond .eq 7, 3) := by decide +kernel
theorem dX4_state_40 : decode cX4_state 40 = .ok (.iconst 1, 1) := by decide +kernel
theorem dX4_state_41 : decode cX4_state 41 = .ok (.goto 32, 3) := by decide +kernel
theorem dX4_state_44 : decode cX4_state 44 = .ok (.iconst 0, 1) := by decide +kernel
theorem dX4_state_45 : decode cX4_state 45 = .ok (.goto 28, 3) := by decide +kernel
theorem dX4_state_48 : decode cX4_state 48 = .ok (.iload_n 1, 1) := by decide +kernel
theorem dX4_state_49 : decode cX4_state 49 = .ok (.iconst 3, 1) := by decide +kernel
theorem dX4_state_50 : decode cX4_state 50 = .ok (.if_icmp .ne 10, 3) := by decide +kernel
theorem dX4_state_53 : decode cX4_state 53 = .ok (.aload_n 0, 1) := by decide +kernel
theorem dX4_state_54 : decode cX4_state 54 = .ok (.getfield 157, 3) := by decide +kernel
theorem dX4_state_57 : decode cX4_state 57 = .ok (.goto 16, 3) := by decide +kernel
theorem dX4_state_60 : decode cX4_state 60 = .ok (.iload_n 1, 1) := by decide +kernel
theorem dX4_state_61 : decode cX4_state 61 = .ok (.iconst 4, 1) := by decide +kernel
theorem dX4_state_62 : decode cX4_state 62 = .ok (.if_icmp .ne 10, 3) := by decide +kernel
theorem dX4_state_65 : decode cX4_state 65 = .ok (.aload_n 0, 1) := by decide +kernel
theorem dX4_state_66 : decode cX4_state 66 = .ok (.getfield 126, 3) := by decide +kernel
theorem dX4_state_69 : decode cX4_state 69 = .ok (.goto 4, 3) := by decide +kernel
theorem dX4_state_72 : decode cX4_state 72 = .ok (.iconst (-1), 1) := by decide +kernel
theorem dX4_state_73 : decode cX4_state 73 = .ok (.ireturn, 1) := by decide +kernel
theorem dX4_check_0 : decode cX4_check 0 = .ok (.aload_n 0, 1) := by decide +kernel
theorem dX4_check_1 : decode cX4_check 1 = .ok (.iconst 0, 1) := by decide +kernel
theorem dX4_check_2 : decode cX4_check 2 = .ok (.putfield 71, 3) := by decide +kernel
theorem dX4_check_5 : decode cX4_check 5 = .ok (.iconst 1, 1) := by decide +kernel
theorem dX4_check_6 : decode cX4_check 6 = .ok (.ireturn, 1) := by decide +kernel
end
section
-- STATES: a register file: a group and a place
abbrev St : Type := Nat → Nat → Int32
def up2 (u : Nat → Nat → Int32) (g i : Nat) (v : Int32) : Nat → Nat → Int32 := fun g' => if g' = g then upd (u g) i v else u g'
theorem up2_s (u : St) (g i : Nat) (v : Int32) : up2 u g i v g i = v := by simp [up2, upd]
theorem up2_g (u : St) {g g' : Nat} (i : Nat) (v : Int32) (h : g' ≠ g) : up2 u g i v g' = u g' := by simp [up2, h]
theorem up2_i (u : St) (g g' : Nat) {i i' : Nat} (v : Int32) (h : i' ≠ i) : up2 u g i v g' i' = u g' i' := by
  by_cases hg : g' = g
  · subst hg; simp [up2, upd, h]
  · simp [up2, hg]
theorem up2_at (u : St) (g i : Nat) (v : Int32) (g' i' : Nat) : up2 u g i v g' i' = if g' = g ∧ i' = i then v else u g' i' := by
  by_cases hg : g' = g
  · subst hg
    by_cases hi : i' = i
    · subst hi; simp [up2, upd]
    · simp [up2, upd, hi]
  · simp [up2, hg]
abbrev clA : List vw_C := [(RX0, TX0, 4), (RX1, TX1, 9), (RX2, TX2, 10), (RX3, TX3, 8), (RX4, TX4, 27)]
def tyl (z : Nat → ClassId) : List (ClassId × FieldType) := [(z 0, .int), (z 1, .boolean), (z 2, .object RX1), (z 3, .object RX2)]
-- THE TABLE: the good words of lw_tbl
def TT : List Cond := lw_tbl.filter goodWord
theorem TT_good : jk_good TT := fun _ h => good_of_word (List.mem_filter.mp h).2
theorem tt_t {w : Cond} (i : Nat) (h : tables_1[i]? = some w) (hg : goodWord w = true) : w ∈ TT := List.mem_filter.mpr ⟨List.mem_append_right _ (List.mem_of_getElem? h), hg⟩
theorem tt_s {w : Cond} (i : Nat) (h : (k2_sels lw_privs)[i]? = some w) (hg : goodWord w = true) : w ∈ TT := List.mem_filter.mpr ⟨List.mem_append_left _ (List.mem_of_getElem? h), hg⟩
theorem jk_lt {x : Int32} {n : Nat} (h : vp_in x n) : x.toNatClampNeg < n := Nat.not_le.mp fun q => h (Or.inr q)
theorem jk_nb {x : Int32} (h : x = 0 ∨ x = 1) : narrow .boolean (.int x) = .int x := by rcases h with rfl | rfl <;> rfl
theorem jk_fb {x : Int32} (h : x = 0 ∨ x = 1) : fits .boolean (.int x) = true := by rcases h with rfl | rfl <;> rfl
theorem jk_vb {x : Int32} (h : x = 0 ∨ x = 1) : vp_nar .boolean x = x := by rcases h with rfl | rfl <;> rfl
theorem jk_div4 {k : Nat} (h : k < 65536) : nI k / 4 = nI (k / 4) := pk_div (a := k) (d := 4) (by omega) (by decide) (by decide)
theorem jk_div2 {k : Nat} (h : k < 65536) : nI k / 2 = nI (k / 2) := pk_div (a := k) (d := 2) (by omega) (by decide) (by decide)
theorem jk_rem4 {k : Nat} (h : k < 65536) : nI k - nI k / 4 * 4 = nI (k % 4) := pk_rem (a := k) (d := 4) (by omega) (by decide) (by decide)
theorem lt8 : ∀ i, i < 8 → ¬ (8 : Int32) ≤ nI i := by decide +kernel
theorem lt2 : ∀ i, i < 2 → ¬ (2 : Int32) ≤ nI i := by decide +kernel
theorem jk8 {P : Nat → Prop} (h0 : P 0) (h1 : P 1) (h2 : P 2) (h3 : P 3) (h4 : P 4) (h5 : P 5) (h6 : P 6) (h7 : P 7) {k : Nat} (hk : k < 8) : P k := by
  rcases (show k = 0 ∨ k = 1 ∨ k = 2 ∨ k = 3 ∨ k = 4 ∨ k = 5 ∨ k = 6 ∨ k = 7 by omega) with rfl | rfl | rfl | rfl | rfl | rfl | rfl | rfl <;> assumption
theorem jk2 {P : Nat → Prop} (h0 : P 0) (h1 : P 1) {k : Nat} (hk : k < 2) : P k := by
  rcases (show k = 0 ∨ k = 1 by omega) with rfl | rfl <;> assumption
theorem jk_w {i : Nat} {Cn : String} {T : u_T} {N : Nat} (h : clA[i]? = some (Cn, T, N)) : (Cn, T, N) ∈ clA := List.mem_of_getElem? h

theorem wi_0 : ∀ w ∈ u_ws RX0 TX0 4, w ∈ TT := by
  intro w hw
  exact List.mem_filter.mpr ⟨(show ∀ w ∈ u_ws RX0 TX0 4, w ∈ lw_tbl by decide +kernel) w hw, (show ∀ w ∈ u_ws RX0 TX0 4, goodWord w = true by decide +kernel) w hw⟩
theorem kf_0 : jk_F clA TT 0 RX0 TX0 4 tyX0 := ⟨rfl, tyX0_ok, nmX0, wi_0⟩
theorem wi_1 : ∀ w ∈ u_ws RX1 TX1 9, w ∈ TT := by
  intro w hw
  exact List.mem_filter.mpr ⟨(show ∀ w ∈ u_ws RX1 TX1 9, w ∈ lw_tbl by decide +kernel) w hw, (show ∀ w ∈ u_ws RX1 TX1 9, goodWord w = true by decide +kernel) w hw⟩
theorem kf_1 : jk_F clA TT 1 RX1 TX1 9 tyX1 := ⟨rfl, tyX1_ok, nmX1, wi_1⟩
theorem wi_2 : ∀ w ∈ u_ws RX2 TX2 10, w ∈ TT := by
  intro w hw
  exact List.mem_filter.mpr ⟨(show ∀ w ∈ u_ws RX2 TX2 10, w ∈ lw_tbl by decide +kernel) w hw, (show ∀ w ∈ u_ws RX2 TX2 10, goodWord w = true by decide +kernel) w hw⟩
theorem kf_2 : jk_F clA TT 2 RX2 TX2 10 tyX2 := ⟨rfl, tyX2_ok, nmX2, wi_2⟩
theorem wi_3 : ∀ w ∈ u_ws RX3 TX3 8, w ∈ TT := by
  intro w hw
  exact List.mem_filter.mpr ⟨(show ∀ w ∈ u_ws RX3 TX3 8, w ∈ lw_tbl by decide +kernel) w hw, (show ∀ w ∈ u_ws RX3 TX3 8, goodWord w = true by decide +kernel) w hw⟩
theorem kf_3 : jk_F clA TT 3 RX3 TX3 8 tyX3 := ⟨rfl, tyX3_ok, nmX3, wi_3⟩
theorem wi_4 : ∀ w ∈ u_ws RX4 TX4 27, w ∈ TT := by
  intro w hw
  exact List.mem_filter.mpr ⟨(show ∀ w ∈ u_ws RX4 TX4 27, w ∈ lw_tbl by decide +kernel) w hw, (show ∀ w ∈ u_ws RX4 TX4 27, goodWord w = true by decide +kernel) w hw⟩
theorem kf_4 : jk_F clA TT 4 RX4 TX4 27 tyX4 := ⟨rfl, tyX4_ok, nmX4, wi_4⟩
end
section
-- THE CLASS'S WORLD: 27 cells at the addresses a 0 .. a 26; u holds what they hold
def dkF (a : Nat → Nat) (u : St) : List Value := [.ref (a 1), .ref (a 2), .ref (a 3), .ref (a 4), .int (u 0 0), .int (u 0 1), .int (u 0 2), .int (u 0 3)]
def gdF (a : Nat → Nat) (u : St) : List Value := [.ref (a 5), .ref (a 6), .int (u 1 1), .int (u 1 0)]
def mvF (a : Nat → Nat) (u : St) (k : Nat) : List Value := [.ref (a (15 + k)), .int (u 10 k), .int (u 11 k), .int (u 12 k), .int (u 13 k), .int (u 14 k), .int (u 15 k), .int (u 16 k), .int (u 17 k)]
def rgF (a : Nat → Nat) (u : St) (r : Nat) : List Value := [.int (nI (4 * r)), .ref (a (25 + r)), .int (u 30 r), .int (u 31 r), .int (u 32 r), .int (u 33 r), .int (u 34 r), .int (u 35 r), .int (u 36 r), .int (u 37 r)]
def mvA (a : Nat → Nat) : Nat → Option Nat := fun j => some (a (7 + j))
def rgA (a : Nat → Nat) : Nat → Option Nat := fun j => some (a (23 + j))
def cW (z : Nat → ClassId) (a : Nat → Nat) (u : St) : va_W := [(a 0, .inr (3, dkF a u)), (a 1, .inl (z 2, 8, .inr (.inr (.inr (.inr (mvA a)))))), (a 2, .inl (z 3, 2, .inr (.inr (.inr (.inr (rgA a)))))), (a 3, .inr (0, gdF a u)), (a 4, .inl (z 0, 8, .inl (u 2))), (a 5, .inl (z 0, 8, .inl (u 3))), (a 6, .inl (z 0, 8, .inl (u 4))), (a 7, .inr (1, mvF a u 0)), (a 8, .inr (1, mvF a u 1)), (a 9, .inr (1, mvF a u 2)), (a 10, .inr (1, mvF a u 3)), (a 11, .inr (1, mvF a u 4)), (a 12, .inr (1, mvF a u 5)), (a 13, .inr (1, mvF a u 6)), (a 14, .inr (1, mvF a u 7)), (a 15, .inl (z 0, 7, .inl (u 20))), (a 16, .inl (z 0, 7, .inl (u 21))), (a 17, .inl (z 0, 7, .inl (u 22))), (a 18, .inl (z 0, 7, .inl (u 23))), (a 19, .inl (z 0, 7, .inl (u 24))), (a 20, .inl (z 0, 7, .inl (u 25))), (a 21, .inl (z 0, 7, .inl (u 26))), (a 22, .inl (z 0, 7, .inl (u 27))), (a 23, .inr (2, rgF a u 0)), (a 24, .inr (2, rgF a u 1)), (a 25, .inl (z 1, 2, .inl (u 40))), (a 26, .inl (z 1, 2, .inl (u 41)))]
section CW
variable {z : Nat → ClassId} {a : Nat → Nat} {u : St}
theorem pl_desk : (cW z a u)[0]? = some (a 0, .inr (3, dkF a u)) := rfl
theorem pl_mvs : (cW z a u)[1]? = some (a 1, .inl (z 2, 8, .inr (.inr (.inr (.inr (mvA a)))))) := rfl
theorem pl_rgs : (cW z a u)[2]? = some (a 2, .inl (z 3, 2, .inr (.inr (.inr (.inr (rgA a)))))) := rfl
theorem pl_guard : (cW z a u)[3]? = some (a 3, .inr (0, gdF a u)) := rfl
theorem pl_lights : (cW z a u)[4]? = some (a 4, .inl (z 0, 8, .inl (u 2))) := rfl
theorem pl_last : (cW z a u)[5]? = some (a 5, .inl (z 0, 8, .inl (u 3))) := rfl
theorem pl_yel : (cW z a u)[6]? = some (a 6, .inl (z 0, 8, .inl (u 4))) := rfl
theorem pl_mv {k : Nat} (hk : k < 8) : (cW z a u)[7 + k]? = some (a (7 + k), .inr (1, mvF a u k)) := jk8 (P := fun k => (cW z a u)[7 + k]? = some (a (7 + k), .inr (1, mvF a u k))) rfl rfl rfl rfl rfl rfl rfl rfl hk
theorem pl_times {k : Nat} (hk : k < 8) : (cW z a u)[15 + k]? = some (a (15 + k), .inl (z 0, 7, .inl (u (20 + k)))) := jk8 (P := fun k => (cW z a u)[15 + k]? = some (a (15 + k), .inl (z 0, 7, .inl (u (20 + k))))) rfl rfl rfl rfl rfl rfl rfl rfl hk
theorem pl_rg {k : Nat} (hk : k < 2) : (cW z a u)[23 + k]? = some (a (23 + k), .inr (2, rgF a u k)) := jk2 (P := fun k => (cW z a u)[23 + k]? = some (a (23 + k), .inr (2, rgF a u k))) rfl rfl hk
theorem pl_ex {k : Nat} (hk : k < 2) : (cW z a u)[25 + k]? = some (a (25 + k), .inl (z 1, 2, .inl (u (40 + k)))) := jk2 (P := fun k => (cW z a u)[25 + k]? = some (a (25 + k), .inl (z 1, 2, .inl (u (40 + k))))) rfl rfl hk
theorem pu_desk_time {v : Int32} : (cW z a u).set 0 (a 0, .inr (3, (dkF a u).set 4 (.int v))) = cW z a (up2 u 0 0 v) := rfl
theorem pu_desk_side {v : Int32} : (cW z a u).set 0 (a 0, .inr (3, (dkF a u).set 5 (.int v))) = cW z a (up2 u 0 1 v) := rfl
theorem pu_desk_crossing {v : Int32} : (cW z a u).set 0 (a 0, .inr (3, (dkF a u).set 6 (.int v))) = cW z a (up2 u 0 2 v) := rfl
theorem pu_desk_crossings {v : Int32} : (cW z a u).set 0 (a 0, .inr (3, (dkF a u).set 7 (.int v))) = cW z a (up2 u 0 3 v) := rfl
theorem pu_guard_wayWasBlocked {v : Int32} : (cW z a u).set 3 (a 3, .inr (0, (gdF a u).set 2 (.int v))) = cW z a (up2 u 1 1 v) := rfl
theorem pu_guard_fault {v : Int32} : (cW z a u).set 3 (a 3, .inr (0, (gdF a u).set 3 (.int v))) = cW z a (up2 u 1 0 v) := rfl
theorem pu_lights {j : Nat} {v : Int32} : (cW z a u).set 4 (a 4, .inl (z 0, 8, .inl (upd (u 2) j v))) = cW z a (up2 u 2 j v) := rfl
theorem pu_last {j : Nat} {v : Int32} : (cW z a u).set 5 (a 5, .inl (z 0, 8, .inl (upd (u 3) j v))) = cW z a (up2 u 3 j v) := rfl
theorem pu_yel {j : Nat} {v : Int32} : (cW z a u).set 6 (a 6, .inl (z 0, 8, .inl (upd (u 4) j v))) = cW z a (up2 u 4 j v) := rfl
theorem pu_mv_modes {k : Nat} (hk : k < 8) {v : Int32} : (cW z a u).set (7 + k) (a (7 + k), .inr (1, (mvF a u k).set 1 (.int v))) = cW z a (up2 u 10 k v) := jk8 (P := fun k => (cW z a u).set (7 + k) (a (7 + k), .inr (1, (mvF a u k).set 1 (.int v))) = cW z a (up2 u 10 k v)) rfl rfl rfl rfl rfl rfl rfl rfl hk
theorem pu_mv_car {k : Nat} (hk : k < 8) {v : Int32} : (cW z a u).set (7 + k) (a (7 + k), .inr (1, (mvF a u k).set 2 (.int v))) = cW z a (up2 u 11 k v) := jk8 (P := fun k => (cW z a u).set (7 + k) (a (7 + k), .inr (1, (mvF a u k).set 2 (.int v))) = cW z a (up2 u 11 k v)) rfl rfl rfl rfl rfl rfl rfl rfl hk
theorem pu_mv_remembered {k : Nat} (hk : k < 8) {v : Int32} : (cW z a u).set (7 + k) (a (7 + k), .inr (1, (mvF a u k).set 3 (.int v))) = cW z a (up2 u 12 k v) := jk8 (P := fun k => (cW z a u).set (7 + k) (a (7 + k), .inr (1, (mvF a u k).set 3 (.int v))) = cW z a (up2 u 12 k v)) rfl rfl rfl rfl rfl rfl rfl rfl hk
theorem pu_mv_pushed {k : Nat} (hk : k < 8) {v : Int32} : (cW z a u).set (7 + k) (a (7 + k), .inr (1, (mvF a u k).set 4 (.int v))) = cW z a (up2 u 13 k v) := jk8 (P := fun k => (cW z a u).set (7 + k) (a (7 + k), .inr (1, (mvF a u k).set 4 (.int v))) = cW z a (up2 u 13 k v)) rfl rfl rfl rfl rfl rfl rfl rfl hk
theorem pu_mv_waited {k : Nat} (hk : k < 8) {v : Int32} : (cW z a u).set (7 + k) (a (7 + k), .inr (1, (mvF a u k).set 5 (.int v))) = cW z a (up2 u 14 k v) := jk8 (P := fun k => (cW z a u).set (7 + k) (a (7 + k), .inr (1, (mvF a u k).set 5 (.int v))) = cW z a (up2 u 14 k v)) rfl rfl rfl rfl rfl rfl rfl rfl hk
theorem pu_mv_longestWait {k : Nat} (hk : k < 8) {v : Int32} : (cW z a u).set (7 + k) (a (7 + k), .inr (1, (mvF a u k).set 6 (.int v))) = cW z a (up2 u 15 k v) := jk8 (P := fun k => (cW z a u).set (7 + k) (a (7 + k), .inr (1, (mvF a u k).set 6 (.int v))) = cW z a (up2 u 15 k v)) rfl rfl rfl rfl rfl rfl rfl rfl hk
theorem pu_mv_greens {k : Nat} (hk : k < 8) {v : Int32} : (cW z a u).set (7 + k) (a (7 + k), .inr (1, (mvF a u k).set 7 (.int v))) = cW z a (up2 u 16 k v) := jk8 (P := fun k => (cW z a u).set (7 + k) (a (7 + k), .inr (1, (mvF a u k).set 7 (.int v))) = cW z a (up2 u 16 k v)) rfl rfl rfl rfl rfl rfl rfl rfl hk
theorem pu_mv_stuck {k : Nat} (hk : k < 8) {v : Int32} : (cW z a u).set (7 + k) (a (7 + k), .inr (1, (mvF a u k).set 8 (.int v))) = cW z a (up2 u 17 k v) := jk8 (P := fun k => (cW z a u).set (7 + k) (a (7 + k), .inr (1, (mvF a u k).set 8 (.int v))) = cW z a (up2 u 17 k v)) rfl rfl rfl rfl rfl rfl rfl rfl hk
theorem pu_rg_movement {k : Nat} (hk : k < 2) {v : Int32} : (cW z a u).set (23 + k) (a (23 + k), .inr (2, (rgF a u k).set 2 (.int v))) = cW z a (up2 u 30 k v) := jk2 (P := fun k => (cW z a u).set (23 + k) (a (23 + k), .inr (2, (rgF a u k).set 2 (.int v))) = cW z a (up2 u 30 k v)) rfl rfl hk
theorem pu_rg_phase {k : Nat} (hk : k < 2) {v : Int32} : (cW z a u).set (23 + k) (a (23 + k), .inr (2, (rgF a u k).set 3 (.int v))) = cW z a (up2 u 31 k v) := jk2 (P := fun k => (cW z a u).set (23 + k) (a (23 + k), .inr (2, (rgF a u k).set 3 (.int v))) = cW z a (up2 u 31 k v)) rfl rfl hk
theorem pu_rg_age {k : Nat} (hk : k < 2) {v : Int32} : (cW z a u).set (23 + k) (a (23 + k), .inr (2, (rgF a u k).set 4 (.int v))) = cW z a (up2 u 32 k v) := jk2 (P := fun k => (cW z a u).set (23 + k) (a (23 + k), .inr (2, (rgF a u k).set 4 (.int v))) = cW z a (up2 u 32 k v)) rfl rfl hk
theorem pu_rg_left {k : Nat} (hk : k < 2) {v : Int32} : (cW z a u).set (23 + k) (a (23 + k), .inr (2, (rgF a u k).set 5 (.int v))) = cW z a (up2 u 33 k v) := jk2 (P := fun k => (cW z a u).set (23 + k) (a (23 + k), .inr (2, (rgF a u k).set 5 (.int v))) = cW z a (up2 u 33 k v)) rfl rfl hk
theorem pu_rg_pressure {k : Nat} (hk : k < 2) {v : Int32} : (cW z a u).set (23 + k) (a (23 + k), .inr (2, (rgF a u k).set 6 (.int v))) = cW z a (up2 u 34 k v) := jk2 (P := fun k => (cW z a u).set (23 + k) (a (23 + k), .inr (2, (rgF a u k).set 6 (.int v))) = cW z a (up2 u 34 k v)) rfl rfl hk
theorem pu_rg_next {k : Nat} (hk : k < 2) {v : Int32} : (cW z a u).set (23 + k) (a (23 + k), .inr (2, (rgF a u k).set 7 (.int v))) = cW z a (up2 u 35 k v) := jk2 (P := fun k => (cW z a u).set (23 + k) (a (23 + k), .inr (2, (rgF a u k).set 7 (.int v))) = cW z a (up2 u 35 k v)) rfl rfl hk
theorem pu_rg_walkLeft {k : Nat} (hk : k < 2) {v : Int32} : (cW z a u).set (23 + k) (a (23 + k), .inr (2, (rgF a u k).set 8 (.int v))) = cW z a (up2 u 36 k v) := jk2 (P := fun k => (cW z a u).set (23 + k) (a (23 + k), .inr (2, (rgF a u k).set 8 (.int v))) = cW z a (up2 u 36 k v)) rfl rfl hk
theorem pu_rg_clearingLeft {k : Nat} (hk : k < 2) {v : Int32} : (cW z a u).set (23 + k) (a (23 + k), .inr (2, (rgF a u k).set 9 (.int v))) = cW z a (up2 u 37 k v) := jk2 (P := fun k => (cW z a u).set (23 + k) (a (23 + k), .inr (2, (rgF a u k).set 9 (.int v))) = cW z a (up2 u 37 k v)) rfl rfl hk
theorem pu_times {k : Nat} (hk : k < 8) {j : Nat} {v : Int32} : (cW z a u).set (15 + k) (a (15 + k), .inl (z 0, 7, .inl (upd (u (20 + k)) j v))) = cW z a (up2 u (20 + k) j v) := jk8 (P := fun k => (cW z a u).set (15 + k) (a (15 + k), .inl (z 0, 7, .inl (upd (u (20 + k)) j v))) = cW z a (up2 u (20 + k) j v)) rfl rfl rfl rfl rfl rfl rfl rfl hk
theorem pu_ex {k : Nat} (hk : k < 2) {j : Nat} {v : Int32} : (cW z a u).set (25 + k) (a (25 + k), .inl (z 1, 2, .inl (upd (u (40 + k)) j v))) = cW z a (up2 u (40 + k) j v) := jk2 (P := fun k => (cW z a u).set (25 + k) (a (25 + k), .inl (z 1, 2, .inl (upd (u (40 + k)) j v))) = cW z a (up2 u (40 + k) j v)) rfl rfl hk
end CW
end
section
theorem jk_3 {a b c : Cond} {Ts : List Cond} (h1 : a ∈ Ts) (h2 : b ∈ Ts) (h3 : c ∈ Ts) : ∀ w ∈ ([a, b, c] : List Cond), w ∈ Ts := by
  intro w hw
  simp only [List.mem_cons, List.not_mem_nil, or_false] at hw
  rcases hw with rfl | rfl | rfl <;> assumption
theorem jk_4 {a b c d : Cond} {Ts : List Cond} (h1 : a ∈ Ts) (h2 : b ∈ Ts) (h3 : c ∈ Ts) (h4 : d ∈ Ts) : ∀ w ∈ ([a, b, c, d] : List Cond), w ∈ Ts := by
  intro w hw
  simp only [List.mem_cons, List.not_mem_nil, or_false] at hw
  rcases hw with rfl | rfl | rfl | rfl <;> assumption
theorem bp_6 : (Int8.ofInt (6)).toInt32 = (6 : Int32) := by decide
theorem bp_7 : (Int8.ofInt (7)).toInt32 = (7 : Int32) := by decide
theorem bp_8 : (Int8.ofInt (8)).toInt32 = (8 : Int32) := by decide
theorem bp_16 : (Int8.ofInt (16)).toInt32 = (16 : Int32) := by decide
theorem bp_28 : (Int8.ofInt (28)).toInt32 = (28 : Int32) := by decide
theorem bp_32 : (Int8.ofInt (32)).toInt32 = (32 : Int32) := by decide
theorem bp_63 : (Int8.ofInt (63)).toInt32 = (63 : Int32) := by decide
theorem ic_m1 : Int32.ofInt (-1) = (-1 : Int32) := by decide
theorem ic_0 : Int32.ofInt (0) = (0 : Int32) := by decide
theorem ic_1 : Int32.ofInt (1) = (1 : Int32) := by decide
theorem ic_2 : Int32.ofInt (2) = (2 : Int32) := by decide
theorem ic_3 : Int32.ofInt (3) = (3 : Int32) := by decide
theorem ic_4 : Int32.ofInt (4) = (4 : Int32) := by decide
theorem ic_5 : Int32.ofInt (5) = (5 : Int32) := by decide
theorem ix_0 : (0 : Int32) = nI 0 := by decide
theorem ix_1 : (1 : Int32) = nI 1 := by decide
theorem ix_2 : (2 : Int32) = nI 2 := by decide
theorem ix_3 : (3 : Int32) = nI 3 := by decide
theorem ix_4 : (4 : Int32) = nI 4 := by decide
theorem ix_5 : (5 : Int32) = nI 5 := by decide
theorem ix_6 : (6 : Int32) = nI 6 := by decide
theorem sp_500 : (Int16.ofInt (500)).toInt32 = (500 : Int32) := by decide
theorem lk_3_11 : Cond.fieldLink RX3 11 (TX3 0).1 (TX3 0).2.1 (TX3 0).2.2.1 ∈ TT := tt_t 137 (by decide +kernel) rfl
theorem lk_3_18 : Cond.fieldLink RX3 18 (TX3 1).1 (TX3 1).2.1 (TX3 1).2.2.1 ∈ TT := tt_t 138 (by decide +kernel) rfl
theorem lk_3_28 : Cond.fieldLink RX3 28 (TX3 2).1 (TX3 2).2.1 (TX3 2).2.2.1 ∈ TT := tt_t 139 (by decide +kernel) rfl
theorem lk_3_32 : Cond.fieldLink RX3 32 (TX3 3).1 (TX3 3).2.1 (TX3 3).2.2.1 ∈ TT := tt_t 140 (by decide +kernel) rfl
theorem lk_3_46 : Cond.fieldLink RX3 46 (TX1 0).1 (TX1 0).2.1 (TX1 0).2.2.1 ∈ TT := tt_t 32 (by decide +kernel) rfl
theorem lk_3_49 : Cond.fieldLink RX3 49 (TX1 1).1 (TX1 1).2.1 (TX1 1).2.2.1 ∈ TT := tt_t 35 (by decide +kernel) rfl
theorem lk_3_66 : Cond.fieldLink RX3 66 (TX2 1).1 (TX2 1).2.1 (TX2 1).2.2.1 ∈ TT := tt_t 80 (by decide +kernel) rfl
theorem lk_3_70 : Cond.fieldLink RX3 70 (TX1 2).1 (TX1 2).2.1 (TX1 2).2.2.1 ∈ TT := tt_t 37 (by decide +kernel) rfl
theorem lk_3_80 : Cond.fieldLink RX3 80 (TX1 3).1 (TX1 3).2.1 (TX1 3).2.2.1 ∈ TT := tt_t 40 (by decide +kernel) rfl
theorem lk_3_83 : Cond.fieldLink RX3 83 (TX1 4).1 (TX1 4).2.1 (TX1 4).2.2.1 ∈ TT := tt_t 42 (by decide +kernel) rfl
theorem lk_3_86 : Cond.fieldLink RX3 86 (TX1 8).1 (TX1 8).2.1 (TX1 8).2.2.1 ∈ TT := tt_t 50 (by decide +kernel) rfl
theorem lk_3_100 : Cond.fieldLink RX3 100 (TX2 7).1 (TX2 7).2.1 (TX2 7).2.2.1 ∈ TT := tt_t 92 (by decide +kernel) rfl
theorem lk_3_103 : Cond.fieldLink RX3 103 (TX3 6).1 (TX3 6).2.1 (TX3 6).2.2.1 ∈ TT := tt_t 143 (by decide +kernel) rfl
theorem lk_3_106 : Cond.fieldLink RX3 106 (TX3 5).1 (TX3 5).2.1 (TX3 5).2.2.1 ∈ TT := tt_t 142 (by decide +kernel) rfl
theorem lk_3_128 : Cond.fieldLink RX3 128 (TX1 5).1 (TX1 5).2.1 (TX1 5).2.2.1 ∈ TT := tt_t 44 (by decide +kernel) rfl
theorem lk_3_131 : Cond.fieldLink RX3 131 (TX1 6).1 (TX1 6).2.1 (TX1 6).2.2.1 ∈ TT := tt_t 46 (by decide +kernel) rfl
theorem lk_3_134 : Cond.fieldLink RX3 134 (TX1 7).1 (TX1 7).2.1 (TX1 7).2.2.1 ∈ TT := tt_t 48 (by decide +kernel) rfl
theorem lk_3_137 : Cond.fieldLink RX3 137 (TX2 2).1 (TX2 2).2.1 (TX2 2).2.2.1 ∈ TT := tt_t 82 (by decide +kernel) rfl
theorem lk_3_140 : Cond.fieldLink RX3 140 (TX2 3).1 (TX2 3).2.1 (TX2 3).2.2.1 ∈ TT := tt_t 84 (by decide +kernel) rfl
theorem lk_3_143 : Cond.fieldLink RX3 143 (TX2 4).1 (TX2 4).2.1 (TX2 4).2.2.1 ∈ TT := tt_t 86 (by decide +kernel) rfl
theorem lk_3_146 : Cond.fieldLink RX3 146 (TX2 5).1 (TX2 5).2.1 (TX2 5).2.2.1 ∈ TT := tt_t 88 (by decide +kernel) rfl
theorem lk_3_149 : Cond.fieldLink RX3 149 (TX2 6).1 (TX2 6).2.1 (TX2 6).2.2.1 ∈ TT := tt_t 90 (by decide +kernel) rfl
theorem lk_3_156 : Cond.fieldLink RX3 156 (TX3 4).1 (TX3 4).2.1 (TX3 4).2.2.1 ∈ TT := tt_t 141 (by decide +kernel) rfl
theorem lk_3_159 : Cond.fieldLink RX3 159 (TX0 3).1 (TX0 3).2.1 (TX0 3).2.2.1 ∈ TT := tt_t 127 (by decide +kernel) rfl
theorem lk_3_162 : Cond.fieldLink RX3 162 (TX3 7).1 (TX3 7).2.1 (TX3 7).2.2.1 ∈ TT := tt_t 144 (by decide +kernel) rfl
theorem lk_0_9 : Cond.fieldLink RX0 9 (TX0 0).1 (TX0 0).2.1 (TX0 0).2.2.1 ∈ TT := tt_t 123 (by decide +kernel) rfl
theorem lk_0_15 : Cond.fieldLink RX0 15 (TX0 1).1 (TX0 1).2.1 (TX0 1).2.2.1 ∈ TT := tt_t 124 (by decide +kernel) rfl
theorem lk_0_18 : Cond.fieldLink RX0 18 (TX0 2).1 (TX0 2).2.1 (TX0 2).2.2.1 ∈ TT := tt_t 125 (by decide +kernel) rfl
theorem lk_0_22 : Cond.fieldLink RX0 22 (TX0 3).1 (TX0 3).2.1 (TX0 3).2.2.1 ∈ TT := tt_t 126 (by decide +kernel) rfl
theorem lk_1_18 : Cond.fieldLink RX1 18 (TX1 0).1 (TX1 0).2.1 (TX1 0).2.2.1 ∈ TT := tt_t 31 (by decide +kernel) rfl
theorem lk_1_23 : Cond.fieldLink RX1 23 (TX1 1).1 (TX1 1).2.1 (TX1 1).2.2.1 ∈ TT := tt_t 34 (by decide +kernel) rfl
theorem lk_1_30 : Cond.fieldLink RX1 30 (TX1 2).1 (TX1 2).2.1 (TX1 2).2.2.1 ∈ TT := tt_t 36 (by decide +kernel) rfl
theorem lk_1_34 : Cond.fieldLink RX1 34 (TX1 3).1 (TX1 3).2.1 (TX1 3).2.2.1 ∈ TT := tt_t 39 (by decide +kernel) rfl
theorem lk_1_37 : Cond.fieldLink RX1 37 (TX1 4).1 (TX1 4).2.1 (TX1 4).2.2.1 ∈ TT := tt_t 41 (by decide +kernel) rfl
theorem lk_1_44 : Cond.fieldLink RX1 44 (TX1 5).1 (TX1 5).2.1 (TX1 5).2.2.1 ∈ TT := tt_t 43 (by decide +kernel) rfl
theorem lk_1_47 : Cond.fieldLink RX1 47 (TX1 6).1 (TX1 6).2.1 (TX1 6).2.2.1 ∈ TT := tt_t 45 (by decide +kernel) rfl
theorem lk_1_56 : Cond.fieldLink RX1 56 (TX1 7).1 (TX1 7).2.1 (TX1 7).2.2.1 ∈ TT := tt_t 47 (by decide +kernel) rfl
theorem lk_2_9 : Cond.fieldLink RX2 9 (TX2 0).1 (TX2 0).2.1 (TX2 0).2.2.1 ∈ TT := tt_t 78 (by decide +kernel) rfl
theorem lk_2_15 : Cond.fieldLink RX2 15 (TX2 1).1 (TX2 1).2.1 (TX2 1).2.2.1 ∈ TT := tt_t 79 (by decide +kernel) rfl
theorem lk_2_19 : Cond.fieldLink RX2 19 (TX2 2).1 (TX2 2).2.1 (TX2 2).2.2.1 ∈ TT := tt_t 81 (by decide +kernel) rfl
theorem lk_2_22 : Cond.fieldLink RX2 22 (TX2 3).1 (TX2 3).2.1 (TX2 3).2.2.1 ∈ TT := tt_t 83 (by decide +kernel) rfl
theorem lk_2_25 : Cond.fieldLink RX2 25 (TX2 7).1 (TX2 7).2.1 (TX2 7).2.2.1 ∈ TT := tt_t 91 (by decide +kernel) rfl
theorem lk_2_28 : Cond.fieldLink RX2 28 (TX2 8).1 (TX2 8).2.1 (TX2 8).2.2.1 ∈ TT := tt_t 93 (by decide +kernel) rfl
theorem lk_2_31 : Cond.fieldLink RX2 31 (TX2 9).1 (TX2 9).2.1 (TX2 9).2.2.1 ∈ TT := tt_t 94 (by decide +kernel) rfl
theorem lk_2_34 : Cond.fieldLink RX2 34 (TX2 4).1 (TX2 4).2.1 (TX2 4).2.2.1 ∈ TT := tt_t 85 (by decide +kernel) rfl
theorem lk_2_41 : Cond.fieldLink RX2 41 (TX2 5).1 (TX2 5).2.1 (TX2 5).2.2.1 ∈ TT := tt_t 87 (by decide +kernel) rfl
theorem lk_2_44 : Cond.fieldLink RX2 44 (TX2 6).1 (TX2 6).2.1 (TX2 6).2.2.1 ∈ TT := tt_t 89 (by decide +kernel) rfl
theorem lk_2_51 : Cond.fieldLink RX2 51 (TX1 0).1 (TX1 0).2.1 (TX1 0).2.2.1 ∈ TT := tt_t 33 (by decide +kernel) rfl
theorem lk_2_61 : Cond.fieldLink RX2 61 (TX1 2).1 (TX1 2).2.1 (TX1 2).2.2.1 ∈ TT := tt_t 38 (by decide +kernel) rfl
theorem cm_isMovement : Cond.code yX3_isMovement cX3_isMovement 1 (some .boolean) ∈ TT := tt_t 168 rfl rfl
theorem dd_isMovement : yX3_isMovement.cls ≠ "java/lang/invoke/MethodHandle" ∧ yX3_isMovement.cls ≠ "java/lang/invoke/VarHandle" ∧ (parseMethodDescriptor yX3_isMovement.desc).map (fun d => d.parameters.length) = some 1 := by decide +kernel
theorem gv_3_36 : GoodIn TT (va_wsS RX3 36 yX3_isMovement (Cond.code yX3_isMovement cX3_isMovement 1 (some .boolean) :: TT)) := jk_GS TT_good (jk_3 (tt_t 166 (by decide +kernel) rfl) (tt_t 167 (by decide +kernel) rfl) (tt_t 1 (by decide +kernel) rfl)) cm_isMovement
theorem cm_isRing : Cond.code yX3_isRing cX3_isRing 1 (some .boolean) ∈ TT := tt_t 183 rfl rfl
theorem dd_isRing : yX3_isRing.cls ≠ "java/lang/invoke/MethodHandle" ∧ yX3_isRing.cls ≠ "java/lang/invoke/VarHandle" ∧ (parseMethodDescriptor yX3_isRing.desc).map (fun d => d.parameters.length) = some 1 := by decide +kernel
theorem gv_3_53 : GoodIn TT (va_wsS RX3 53 yX3_isRing (Cond.code yX3_isRing cX3_isRing 1 (some .boolean) :: TT)) := jk_GS TT_good (jk_3 (tt_t 181 (by decide +kernel) rfl) (tt_t 182 (by decide +kernel) rfl) (tt_t 1 (by decide +kernel) rfl)) cm_isRing
theorem cm_R_first : Cond.code yX2_first cX2_first 2 (some .int) ∈ TT := tt_t 187 rfl rfl
theorem dd_R_first : yX2_first.cls = RX2 ∧ yX2_first.cls ≠ "java/lang/invoke/MethodHandle" ∧ yX2_first.cls ≠ "java/lang/invoke/VarHandle" ∧ (parseMethodDescriptor yX2_first.desc).map (fun d => d.parameters.length) = some 1 := by decide +kernel
theorem gv_3_56 : GoodIn TT (wsV RX3 56 RX2 yX2_first (Cond.code yX2_first cX2_first 2 (some .int) :: TT)) := jk_GV TT_good (jk_4 (tt_t 184 (by decide +kernel) rfl) (tt_t 185 (by decide +kernel) rfl) (tt_t 186 (by decide +kernel) rfl) (tt_t 3 (by decide +kernel) rfl)) cm_R_first
theorem cm_R_isBusyWith : Cond.code yX2_isBusyWith cX2_isBusyWith 2 (some .boolean) ∈ TT := tt_t 191 rfl rfl
theorem dd_R_isBusyWith : yX2_isBusyWith.cls = RX2 ∧ yX2_isBusyWith.cls ≠ "java/lang/invoke/MethodHandle" ∧ yX2_isBusyWith.cls ≠ "java/lang/invoke/VarHandle" ∧ (parseMethodDescriptor yX2_isBusyWith.desc).map (fun d => d.parameters.length) = some 1 := by decide +kernel
theorem gv_3_60 : GoodIn TT (wsV RX3 60 RX2 yX2_isBusyWith (Cond.code yX2_isBusyWith cX2_isBusyWith 2 (some .boolean) :: TT)) := jk_GV TT_good (jk_4 (tt_t 188 (by decide +kernel) rfl) (tt_t 189 (by decide +kernel) rfl) (tt_t 190 (by decide +kernel) rfl) (tt_t 3 (by decide +kernel) rfl)) cm_R_isBusyWith
theorem cm_R_second : Cond.code yX2_second cX2_second 2 (some .int) ∈ TT := tt_t 195 rfl rfl
theorem dd_R_second : yX2_second.cls = RX2 ∧ yX2_second.cls ≠ "java/lang/invoke/MethodHandle" ∧ yX2_second.cls ≠ "java/lang/invoke/VarHandle" ∧ (parseMethodDescriptor yX2_second.desc).map (fun d => d.parameters.length) = some 1 := by decide +kernel
theorem gv_3_63 : GoodIn TT (wsV RX3 63 RX2 yX2_second (Cond.code yX2_second cX2_second 2 (some .int) :: TT)) := jk_GV TT_good (jk_4 (tt_t 192 (by decide +kernel) rfl) (tt_t 193 (by decide +kernel) rfl) (tt_t 194 (by decide +kernel) rfl) (tt_t 3 (by decide +kernel) rfl)) cm_R_second
theorem cm_M_has : Cond.code yX1_has cX1_has 2 (some .boolean) ∈ TT := tt_t 203 rfl rfl
theorem dd_M_has : yX1_has.cls = RX1 ∧ yX1_has.cls ≠ "java/lang/invoke/MethodHandle" ∧ yX1_has.cls ≠ "java/lang/invoke/VarHandle" ∧ (parseMethodDescriptor yX1_has.desc).map (fun d => d.parameters.length) = some 1 := by decide +kernel
theorem gv_3_74 : GoodIn TT (wsV RX3 74 RX1 yX1_has (Cond.code yX1_has cX1_has 2 (some .boolean) :: TT)) := jk_GV TT_good (jk_4 (tt_t 200 (by decide +kernel) rfl) (tt_t 201 (by decide +kernel) rfl) (tt_t 202 (by decide +kernel) rfl) (tt_t 2 (by decide +kernel) rfl)) cm_M_has
theorem cm_isGreen : Cond.code yX3_isGreen cX3_isGreen 3 (some .boolean) ∈ TT := tt_t 207 rfl rfl
theorem dd_isGreen : yX3_isGreen.cls = RX3 ∧ yX3_isGreen.cls ≠ "java/lang/invoke/MethodHandle" ∧ yX3_isGreen.cls ≠ "java/lang/invoke/VarHandle" ∧ (parseMethodDescriptor yX3_isGreen.desc).map (fun d => d.parameters.length) = some 1 := by decide +kernel
theorem gv_3_77 : GoodIn TT (wsV RX3 77 RX3 yX3_isGreen (Cond.code yX3_isGreen cX3_isGreen 3 (some .boolean) :: TT)) := jk_GV TT_good (jk_4 (tt_t 204 (by decide +kernel) rfl) (tt_t 206 (by decide +kernel) rfl) (tt_s 0 (by decide +kernel) rfl) (tt_t 1 (by decide +kernel) rfl)) cm_isGreen
theorem cm_tick : Cond.code yX3_tick cX3_tick 2 (some .int) ∈ TT := tt_t 226 rfl rfl
theorem dd_tick : yX3_tick.cls = RX3 ∧ yX3_tick.cls ≠ "java/lang/invoke/MethodHandle" ∧ yX3_tick.cls ≠ "java/lang/invoke/VarHandle" ∧ (parseMethodDescriptor yX3_tick.desc).map (fun d => d.parameters.length) = some 0 := by decide +kernel
theorem gv_3_89 : GoodIn TT (wsV RX3 89 RX3 yX3_tick (Cond.code yX3_tick cX3_tick 2 (some .int) :: TT)) := jk_GV TT_good (jk_4 (tt_t 223 (by decide +kernel) rfl) (tt_t 225 (by decide +kernel) rfl) (tt_s 1 (by decide +kernel) rfl) (tt_t 1 (by decide +kernel) rfl)) cm_tick
theorem cm_isFlashing : Cond.code yX3_isFlashing cX3_isFlashing 1 (some .boolean) ∈ TT := tt_t 230 rfl rfl
theorem dd_isFlashing : yX3_isFlashing.cls = RX3 ∧ yX3_isFlashing.cls ≠ "java/lang/invoke/MethodHandle" ∧ yX3_isFlashing.cls ≠ "java/lang/invoke/VarHandle" ∧ (parseMethodDescriptor yX3_isFlashing.desc).map (fun d => d.parameters.length) = some 0 := by decide +kernel
theorem gv_3_93 : GoodIn TT (wsV RX3 93 RX3 yX3_isFlashing (Cond.code yX3_isFlashing cX3_isFlashing 1 (some .boolean) :: TT)) := jk_GV TT_good (jk_4 (tt_t 227 (by decide +kernel) rfl) (tt_t 229 (by decide +kernel) rfl) (tt_s 2 (by decide +kernel) rfl) (tt_t 1 (by decide +kernel) rfl)) cm_isFlashing
theorem cm_R_goDark : Cond.code yX2_goDark cX2_goDark 1 none ∈ TT := tt_t 279 rfl rfl
theorem dd_R_goDark : yX2_goDark.cls = RX2 ∧ yX2_goDark.cls ≠ "java/lang/invoke/MethodHandle" ∧ yX2_goDark.cls ≠ "java/lang/invoke/VarHandle" ∧ (parseMethodDescriptor yX2_goDark.desc).map (fun d => d.parameters.length) = some 0 := by decide +kernel
theorem gv_3_97 : GoodIn TT (wsV RX3 97 RX2 yX2_goDark (Cond.code yX2_goDark cX2_goDark 1 none :: TT)) := jk_GV TT_good (jk_4 (tt_t 385 (by decide +kernel) rfl) (tt_t 277 (by decide +kernel) rfl) (tt_t 278 (by decide +kernel) rfl) (tt_t 3 (by decide +kernel) rfl)) cm_R_goDark
theorem cm_G_forget : Cond.code yX0_forget cX0_forget 2 none ∈ TT := tt_t 389 rfl rfl
theorem dd_G_forget : yX0_forget.cls = RX0 ∧ yX0_forget.cls ≠ "java/lang/invoke/MethodHandle" ∧ yX0_forget.cls ≠ "java/lang/invoke/VarHandle" ∧ (parseMethodDescriptor yX0_forget.desc).map (fun d => d.parameters.length) = some 0 := by decide +kernel
theorem gv_3_109 : GoodIn TT (wsV RX3 109 RX0 yX0_forget (Cond.code yX0_forget cX0_forget 2 none :: TT)) := jk_GV TT_good (jk_4 (tt_t 386 (by decide +kernel) rfl) (tt_t 387 (by decide +kernel) rfl) (tt_t 388 (by decide +kernel) rfl) (tt_t 4 (by decide +kernel) rfl)) cm_G_forget
theorem cm_shownLight : Cond.code yX3_shownLight cX3_shownLight 3 (some .int) ∈ TT := tt_t 358 rfl rfl
theorem dd_shownLight : yX3_shownLight.cls = RX3 ∧ yX3_shownLight.cls ≠ "java/lang/invoke/MethodHandle" ∧ yX3_shownLight.cls ≠ "java/lang/invoke/VarHandle" ∧ (parseMethodDescriptor yX3_shownLight.desc).map (fun d => d.parameters.length) = some 1 := by decide +kernel
theorem gv_3_112 : GoodIn TT (wsV RX3 112 RX3 yX3_shownLight (Cond.code yX3_shownLight cX3_shownLight 3 (some .int) :: TT)) := jk_GV TT_good (jk_4 (tt_t 355 (by decide +kernel) rfl) (tt_t 357 (by decide +kernel) rfl) (tt_s 19 (by decide +kernel) rfl) (tt_t 1 (by decide +kernel) rfl)) cm_shownLight
theorem cm_ringOf : Cond.code yX3_ringOf cX3_ringOf 1 (some .int) ∈ TT := tt_t 210 rfl rfl
theorem dd_ringOf : yX3_ringOf.cls ≠ "java/lang/invoke/MethodHandle" ∧ yX3_ringOf.cls ≠ "java/lang/invoke/VarHandle" ∧ (parseMethodDescriptor yX3_ringOf.desc).map (fun d => d.parameters.length) = some 1 := by decide +kernel
theorem gv_3_115 : GoodIn TT (va_wsS RX3 115 yX3_ringOf (Cond.code yX3_ringOf cX3_ringOf 1 (some .int) :: TT)) := jk_GS TT_good (jk_3 (tt_t 208 (by decide +kernel) rfl) (tt_t 209 (by decide +kernel) rfl) (tt_t 1 (by decide +kernel) rfl)) cm_ringOf
theorem cm_R_walking : Cond.code yX2_walking cX2_walking 1 (some .int) ∈ TT := tt_t 295 rfl rfl
theorem dd_R_walking : yX2_walking.cls = RX2 ∧ yX2_walking.cls ≠ "java/lang/invoke/MethodHandle" ∧ yX2_walking.cls ≠ "java/lang/invoke/VarHandle" ∧ (parseMethodDescriptor yX2_walking.desc).map (fun d => d.parameters.length) = some 0 := by decide +kernel
theorem gv_3_118 : GoodIn TT (wsV RX3 118 RX2 yX2_walking (Cond.code yX2_walking cX2_walking 1 (some .int) :: TT)) := jk_GV TT_good (jk_4 (tt_t 394 (by decide +kernel) rfl) (tt_t 293 (by decide +kernel) rfl) (tt_t 294 (by decide +kernel) rfl) (tt_t 3 (by decide +kernel) rfl)) cm_R_walking
theorem cm_isCalled : Cond.code yX3_isCalled cX3_isCalled 2 (some .boolean) ∈ TT := tt_t 238 rfl rfl
theorem dd_isCalled : yX3_isCalled.cls = RX3 ∧ yX3_isCalled.cls ≠ "java/lang/invoke/MethodHandle" ∧ yX3_isCalled.cls ≠ "java/lang/invoke/VarHandle" ∧ (parseMethodDescriptor yX3_isCalled.desc).map (fun d => d.parameters.length) = some 1 := by decide +kernel
theorem gv_3_121 : GoodIn TT (wsV RX3 121 RX3 yX3_isCalled (Cond.code yX3_isCalled cX3_isCalled 2 (some .boolean) :: TT)) := jk_GV TT_good (jk_4 (tt_t 235 (by decide +kernel) rfl) (tt_t 237 (by decide +kernel) rfl) (tt_s 4 (by decide +kernel) rfl) (tt_t 1 (by decide +kernel) rfl)) cm_isCalled
theorem cm_number : Cond.code yX3_number cX3_number 1 (some .int) ∈ TT := tt_t 397 rfl rfl
theorem dd_number : yX3_number.cls ≠ "java/lang/invoke/MethodHandle" ∧ yX3_number.cls ≠ "java/lang/invoke/VarHandle" ∧ (parseMethodDescriptor yX3_number.desc).map (fun d => d.parameters.length) = some 1 := by decide +kernel
theorem gv_3_124 : GoodIn TT (va_wsS RX3 124 yX3_number (Cond.code yX3_number cX3_number 1 (some .int) :: TT)) := jk_GS TT_good (jk_3 (tt_t 395 (by decide +kernel) rfl) (tt_t 396 (by decide +kernel) rfl) (tt_t 1 (by decide +kernel) rfl)) cm_number
theorem cm_mayEnd : Cond.code yX3_mayEnd cX3_mayEnd 2 (some .boolean) ∈ TT := tt_t 287 rfl rfl
theorem dd_mayEnd : yX3_mayEnd.cls = RX3 ∧ yX3_mayEnd.cls ≠ "java/lang/invoke/MethodHandle" ∧ yX3_mayEnd.cls ≠ "java/lang/invoke/VarHandle" ∧ (parseMethodDescriptor yX3_mayEnd.desc).map (fun d => d.parameters.length) = some 1 := by decide +kernel
theorem gv_3_152 : GoodIn TT (wsV RX3 152 RX3 yX3_mayEnd (Cond.code yX3_mayEnd cX3_mayEnd 2 (some .boolean) :: TT)) := jk_GV TT_good (jk_4 (tt_t 284 (by decide +kernel) rfl) (tt_t 286 (by decide +kernel) rfl) (tt_s 9 (by decide +kernel) rfl) (tt_t 1 (by decide +kernel) rfl)) cm_mayEnd
theorem cm_toldLight : Cond.code yX3_toldLight cX3_toldLight 3 (some .int) ∈ TT := tt_t 362 rfl rfl
theorem dd_toldLight : yX3_toldLight.cls = RX3 ∧ yX3_toldLight.cls ≠ "java/lang/invoke/MethodHandle" ∧ yX3_toldLight.cls ≠ "java/lang/invoke/VarHandle" ∧ (parseMethodDescriptor yX3_toldLight.desc).map (fun d => d.parameters.length) = some 1 := by decide +kernel
theorem gv_3_165 : GoodIn TT (wsV RX3 165 RX3 yX3_toldLight (Cond.code yX3_toldLight cX3_toldLight 3 (some .int) :: TT)) := jk_GV TT_good (jk_4 (tt_t 359 (by decide +kernel) rfl) (tt_t 361 (by decide +kernel) rfl) (tt_s 20 (by decide +kernel) rfl) (tt_t 1 (by decide +kernel) rfl)) cm_toldLight
theorem cm_anyInTheWay : Cond.code yX3_anyInTheWay cX3_anyInTheWay 3 (some .boolean) ∈ TT := tt_t 369 rfl rfl
theorem dd_anyInTheWay : yX3_anyInTheWay.cls ≠ "java/lang/invoke/MethodHandle" ∧ yX3_anyInTheWay.cls ≠ "java/lang/invoke/VarHandle" ∧ (parseMethodDescriptor yX3_anyInTheWay.desc).map (fun d => d.parameters.length) = some 1 := by decide +kernel
theorem gv_3_168 : GoodIn TT (va_wsS RX3 168 yX3_anyInTheWay (Cond.code yX3_anyInTheWay cX3_anyInTheWay 3 (some .boolean) :: TT)) := jk_GS TT_good (jk_3 (tt_t 410 (by decide +kernel) rfl) (tt_t 368 (by decide +kernel) rfl) (tt_t 1 (by decide +kernel) rfl)) cm_anyInTheWay
theorem cm_countWaits : Cond.code yX3_countWaits cX3_countWaits 2 none ∈ TT := tt_t 234 rfl rfl
theorem dd_countWaits : yX3_countWaits.cls = RX3 ∧ yX3_countWaits.cls ≠ "java/lang/invoke/MethodHandle" ∧ yX3_countWaits.cls ≠ "java/lang/invoke/VarHandle" ∧ (parseMethodDescriptor yX3_countWaits.desc).map (fun d => d.parameters.length) = some 0 := by decide +kernel
theorem gv_3_172 : GoodIn TT (wsV RX3 172 RX3 yX3_countWaits (Cond.code yX3_countWaits cX3_countWaits 2 none :: TT)) := jk_GV TT_good (jk_4 (tt_t 231 (by decide +kernel) rfl) (tt_t 233 (by decide +kernel) rfl) (tt_s 3 (by decide +kernel) rfl) (tt_t 1 (by decide +kernel) rfl)) cm_countWaits
theorem cm_advanceRings : Cond.code yX3_advanceRings cX3_advanceRings 4 none ∈ TT := tt_t 254 rfl rfl
theorem dd_advanceRings : yX3_advanceRings.cls = RX3 ∧ yX3_advanceRings.cls ≠ "java/lang/invoke/MethodHandle" ∧ yX3_advanceRings.cls ≠ "java/lang/invoke/VarHandle" ∧ (parseMethodDescriptor yX3_advanceRings.desc).map (fun d => d.parameters.length) = some 0 := by decide +kernel
theorem gv_3_175 : GoodIn TT (wsV RX3 175 RX3 yX3_advanceRings (Cond.code yX3_advanceRings cX3_advanceRings 4 none :: TT)) := jk_GV TT_good (jk_4 (tt_t 251 (by decide +kernel) rfl) (tt_t 253 (by decide +kernel) rfl) (tt_s 5 (by decide +kernel) rfl) (tt_t 1 (by decide +kernel) rfl)) cm_advanceRings
theorem cm_goOnWithinSide : Cond.code yX3_goOnWithinSide cX3_goOnWithinSide 3 none ∈ TT := tt_t 283 rfl rfl
theorem dd_goOnWithinSide : yX3_goOnWithinSide.cls = RX3 ∧ yX3_goOnWithinSide.cls ≠ "java/lang/invoke/MethodHandle" ∧ yX3_goOnWithinSide.cls ≠ "java/lang/invoke/VarHandle" ∧ (parseMethodDescriptor yX3_goOnWithinSide.desc).map (fun d => d.parameters.length) = some 1 := by decide +kernel
theorem gv_3_178 : GoodIn TT (wsV RX3 178 RX3 yX3_goOnWithinSide (Cond.code yX3_goOnWithinSide cX3_goOnWithinSide 3 none :: TT)) := jk_GV TT_good (jk_4 (tt_t 280 (by decide +kernel) rfl) (tt_t 282 (by decide +kernel) rfl) (tt_s 8 (by decide +kernel) rfl) (tt_t 1 (by decide +kernel) rfl)) cm_goOnWithinSide
theorem cm_leaveSideOrTurnBack : Cond.code yX3_leaveSideOrTurnBack cX3_leaveSideOrTurnBack 2 none ∈ TT := tt_t 310 rfl rfl
theorem dd_leaveSideOrTurnBack : yX3_leaveSideOrTurnBack.cls = RX3 ∧ yX3_leaveSideOrTurnBack.cls ≠ "java/lang/invoke/MethodHandle" ∧ yX3_leaveSideOrTurnBack.cls ≠ "java/lang/invoke/VarHandle" ∧ (parseMethodDescriptor yX3_leaveSideOrTurnBack.desc).map (fun d => d.parameters.length) = some 0 := by decide +kernel
theorem gv_3_182 : GoodIn TT (wsV RX3 182 RX3 yX3_leaveSideOrTurnBack (Cond.code yX3_leaveSideOrTurnBack cX3_leaveSideOrTurnBack 2 none :: TT)) := jk_GV TT_good (jk_4 (tt_t 307 (by decide +kernel) rfl) (tt_t 309 (by decide +kernel) rfl) (tt_s 11 (by decide +kernel) rfl) (tt_t 1 (by decide +kernel) rfl)) cm_leaveSideOrTurnBack
theorem cm_endCrossing : Cond.code yX3_endCrossing cX3_endCrossing 4 none ∈ TT := tt_t 326 rfl rfl
theorem dd_endCrossing : yX3_endCrossing.cls = RX3 ∧ yX3_endCrossing.cls ≠ "java/lang/invoke/MethodHandle" ∧ yX3_endCrossing.cls ≠ "java/lang/invoke/VarHandle" ∧ (parseMethodDescriptor yX3_endCrossing.desc).map (fun d => d.parameters.length) = some 0 := by decide +kernel
theorem gv_3_185 : GoodIn TT (wsV RX3 185 RX3 yX3_endCrossing (Cond.code yX3_endCrossing cX3_endCrossing 4 none :: TT)) := jk_GV TT_good (jk_4 (tt_t 323 (by decide +kernel) rfl) (tt_t 325 (by decide +kernel) rfl) (tt_s 15 (by decide +kernel) rfl) (tt_t 1 (by decide +kernel) rfl)) cm_endCrossing
theorem cm_beginGreens : Cond.code yX3_beginGreens cX3_beginGreens 5 (some .int) ∈ TT := tt_t 338 rfl rfl
theorem dd_beginGreens : yX3_beginGreens.cls = RX3 ∧ yX3_beginGreens.cls ≠ "java/lang/invoke/MethodHandle" ∧ yX3_beginGreens.cls ≠ "java/lang/invoke/VarHandle" ∧ (parseMethodDescriptor yX3_beginGreens.desc).map (fun d => d.parameters.length) = some 0 := by decide +kernel
theorem gv_3_188 : GoodIn TT (wsV RX3 188 RX3 yX3_beginGreens (Cond.code yX3_beginGreens cX3_beginGreens 5 (some .int) :: TT)) := jk_GV TT_good (jk_4 (tt_t 335 (by decide +kernel) rfl) (tt_t 337 (by decide +kernel) rfl) (tt_s 17 (by decide +kernel) rfl) (tt_t 1 (by decide +kernel) rfl)) cm_beginGreens
theorem cm_showLightsToGuard : Cond.code yX3_showLightsToGuard cX3_showLightsToGuard 2 none ∈ TT := tt_t 354 rfl rfl
theorem dd_showLightsToGuard : yX3_showLightsToGuard.cls = RX3 ∧ yX3_showLightsToGuard.cls ≠ "java/lang/invoke/MethodHandle" ∧ yX3_showLightsToGuard.cls ≠ "java/lang/invoke/VarHandle" ∧ (parseMethodDescriptor yX3_showLightsToGuard.desc).map (fun d => d.parameters.length) = some 0 := by decide +kernel
theorem gv_3_191 : GoodIn TT (wsV RX3 191 RX3 yX3_showLightsToGuard (Cond.code yX3_showLightsToGuard cX3_showLightsToGuard 2 none :: TT)) := jk_GV TT_good (jk_4 (tt_t 351 (by decide +kernel) rfl) (tt_t 353 (by decide +kernel) rfl) (tt_s 18 (by decide +kernel) rfl) (tt_t 1 (by decide +kernel) rfl)) cm_showLightsToGuard
theorem cm_M_countWait : Cond.code yX1_countWait cX1_countWait 2 none ∈ TT := tt_t 247 rfl rfl
theorem dd_M_countWait : yX1_countWait.cls = RX1 ∧ yX1_countWait.cls ≠ "java/lang/invoke/MethodHandle" ∧ yX1_countWait.cls ≠ "java/lang/invoke/VarHandle" ∧ (parseMethodDescriptor yX1_countWait.desc).map (fun d => d.parameters.length) = some 1 := by decide +kernel
theorem gv_3_194 : GoodIn TT (wsV RX3 194 RX1 yX1_countWait (Cond.code yX1_countWait cX1_countWait 2 none :: TT)) := jk_GV TT_good (jk_4 (tt_t 244 (by decide +kernel) rfl) (tt_t 245 (by decide +kernel) rfl) (tt_t 246 (by decide +kernel) rfl) (tt_t 2 (by decide +kernel) rfl)) cm_M_countWait
theorem cm_isAnyCalledOn : Cond.code yX3_isAnyCalledOn cX3_isAnyCalledOn 3 (some .boolean) ∈ TT := tt_t 258 rfl rfl
theorem dd_isAnyCalledOn : yX3_isAnyCalledOn.cls = RX3 ∧ yX3_isAnyCalledOn.cls ≠ "java/lang/invoke/MethodHandle" ∧ yX3_isAnyCalledOn.cls ≠ "java/lang/invoke/VarHandle" ∧ (parseMethodDescriptor yX3_isAnyCalledOn.desc).map (fun d => d.parameters.length) = some 1 := by decide +kernel
theorem gv_3_198 : GoodIn TT (wsV RX3 198 RX3 yX3_isAnyCalledOn (Cond.code yX3_isAnyCalledOn cX3_isAnyCalledOn 3 (some .boolean) :: TT)) := jk_GV TT_good (jk_4 (tt_t 255 (by decide +kernel) rfl) (tt_t 257 (by decide +kernel) rfl) (tt_s 6 (by decide +kernel) rfl) (tt_t 1 (by decide +kernel) rfl)) cm_isAnyCalledOn
theorem cm_R_advanceGreen : Cond.code yX2_advanceGreen cX2_advanceGreen 3 none ∈ TT := tt_t 265 rfl rfl
theorem dd_R_advanceGreen : yX2_advanceGreen.cls = RX2 ∧ yX2_advanceGreen.cls ≠ "java/lang/invoke/MethodHandle" ∧ yX2_advanceGreen.cls ≠ "java/lang/invoke/VarHandle" ∧ (parseMethodDescriptor yX2_advanceGreen.desc).map (fun d => d.parameters.length) = some 2 := by decide +kernel
theorem gv_3_201 : GoodIn TT (wsV RX3 201 RX2 yX2_advanceGreen (Cond.code yX2_advanceGreen cX2_advanceGreen 3 none :: TT)) := jk_GV TT_good (jk_4 (tt_t 262 (by decide +kernel) rfl) (tt_t 263 (by decide +kernel) rfl) (tt_t 264 (by decide +kernel) rfl) (tt_t 3 (by decide +kernel) rfl)) cm_R_advanceGreen
theorem cm_R_advanceEnding : Cond.code yX2_advanceEnding cX2_advanceEnding 2 none ∈ TT := tt_t 271 rfl rfl
theorem dd_R_advanceEnding : yX2_advanceEnding.cls = RX2 ∧ yX2_advanceEnding.cls ≠ "java/lang/invoke/MethodHandle" ∧ yX2_advanceEnding.cls ≠ "java/lang/invoke/VarHandle" ∧ (parseMethodDescriptor yX2_advanceEnding.desc).map (fun d => d.parameters.length) = some 1 := by decide +kernel
theorem gv_3_205 : GoodIn TT (wsV RX3 205 RX2 yX2_advanceEnding (Cond.code yX2_advanceEnding cX2_advanceEnding 2 none :: TT)) := jk_GV TT_good (jk_4 (tt_t 268 (by decide +kernel) rfl) (tt_t 269 (by decide +kernel) rfl) (tt_t 270 (by decide +kernel) rfl) (tt_t 3 (by decide +kernel) rfl)) cm_R_advanceEnding
theorem cm_R_endGreen : Cond.code yX2_endGreen cX2_endGreen 2 none ∈ TT := tt_t 299 rfl rfl
theorem dd_R_endGreen : yX2_endGreen.cls = RX2 ∧ yX2_endGreen.cls ≠ "java/lang/invoke/MethodHandle" ∧ yX2_endGreen.cls ≠ "java/lang/invoke/VarHandle" ∧ (parseMethodDescriptor yX2_endGreen.desc).map (fun d => d.parameters.length) = some 1 := by decide +kernel
theorem gv_3_209 : GoodIn TT (wsV RX3 209 RX2 yX2_endGreen (Cond.code yX2_endGreen cX2_endGreen 2 none :: TT)) := jk_GV TT_good (jk_4 (tt_t 296 (by decide +kernel) rfl) (tt_t 297 (by decide +kernel) rfl) (tt_t 298 (by decide +kernel) rfl) (tt_t 3 (by decide +kernel) rfl)) cm_R_endGreen
theorem cm_isIdle : Cond.code yX3_isIdle cX3_isIdle 1 (some .boolean) ∈ TT := tt_t 302 rfl rfl
theorem dd_isIdle : yX3_isIdle.cls ≠ "java/lang/invoke/MethodHandle" ∧ yX3_isIdle.cls ≠ "java/lang/invoke/VarHandle" ∧ (parseMethodDescriptor yX3_isIdle.desc).map (fun d => d.parameters.length) = some 1 := by decide +kernel
theorem gv_3_212 : GoodIn TT (va_wsS RX3 212 yX3_isIdle (Cond.code yX3_isIdle cX3_isIdle 1 (some .boolean) :: TT)) := jk_GS TT_good (jk_3 (tt_t 300 (by decide +kernel) rfl) (tt_t 301 (by decide +kernel) rfl) (tt_t 1 (by decide +kernel) rfl)) cm_isIdle
theorem cm_calledOn : Cond.code yX3_calledOn cX3_calledOn 3 (some .int) ∈ TT := tt_t 306 rfl rfl
theorem dd_calledOn : yX3_calledOn.cls = RX3 ∧ yX3_calledOn.cls ≠ "java/lang/invoke/MethodHandle" ∧ yX3_calledOn.cls ≠ "java/lang/invoke/VarHandle" ∧ (parseMethodDescriptor yX3_calledOn.desc).map (fun d => d.parameters.length) = some 2 := by decide +kernel
theorem gv_3_215 : GoodIn TT (wsV RX3 215 RX3 yX3_calledOn (Cond.code yX3_calledOn cX3_calledOn 3 (some .int) :: TT)) := jk_GV TT_good (jk_4 (tt_t 303 (by decide +kernel) rfl) (tt_t 305 (by decide +kernel) rfl) (tt_s 10 (by decide +kernel) rfl) (tt_t 1 (by decide +kernel) rfl)) cm_calledOn
theorem cm_turnBackToFirst : Cond.code yX3_turnBackToFirst cX3_turnBackToFirst 3 none ∈ TT := tt_t 314 rfl rfl
theorem dd_turnBackToFirst : yX3_turnBackToFirst.cls = RX3 ∧ yX3_turnBackToFirst.cls ≠ "java/lang/invoke/MethodHandle" ∧ yX3_turnBackToFirst.cls ≠ "java/lang/invoke/VarHandle" ∧ (parseMethodDescriptor yX3_turnBackToFirst.desc).map (fun d => d.parameters.length) = some 1 := by decide +kernel
theorem gv_3_219 : GoodIn TT (wsV RX3 219 RX3 yX3_turnBackToFirst (Cond.code yX3_turnBackToFirst cX3_turnBackToFirst 3 none :: TT)) := jk_GV TT_good (jk_4 (tt_t 311 (by decide +kernel) rfl) (tt_t 313 (by decide +kernel) rfl) (tt_s 12 (by decide +kernel) rfl) (tt_t 1 (by decide +kernel) rfl)) cm_turnBackToFirst
theorem cm_isReady : Cond.code yX3_isReady cX3_isReady 2 (some .boolean) ∈ TT := tt_t 318 rfl rfl
theorem dd_isReady : yX3_isReady.cls = RX3 ∧ yX3_isReady.cls ≠ "java/lang/invoke/MethodHandle" ∧ yX3_isReady.cls ≠ "java/lang/invoke/VarHandle" ∧ (parseMethodDescriptor yX3_isReady.desc).map (fun d => d.parameters.length) = some 1 := by decide +kernel
theorem gv_3_222 : GoodIn TT (wsV RX3 222 RX3 yX3_isReady (Cond.code yX3_isReady cX3_isReady 2 (some .boolean) :: TT)) := jk_GV TT_good (jk_4 (tt_t 315 (by decide +kernel) rfl) (tt_t 317 (by decide +kernel) rfl) (tt_s 13 (by decide +kernel) rfl) (tt_t 1 (by decide +kernel) rfl)) cm_isReady
theorem cm_beginCrossing : Cond.code yX3_beginCrossing cX3_beginCrossing 2 none ∈ TT := tt_t 322 rfl rfl
theorem dd_beginCrossing : yX3_beginCrossing.cls = RX3 ∧ yX3_beginCrossing.cls ≠ "java/lang/invoke/MethodHandle" ∧ yX3_beginCrossing.cls ≠ "java/lang/invoke/VarHandle" ∧ (parseMethodDescriptor yX3_beginCrossing.desc).map (fun d => d.parameters.length) = some 0 := by decide +kernel
theorem gv_3_225 : GoodIn TT (wsV RX3 225 RX3 yX3_beginCrossing (Cond.code yX3_beginCrossing cX3_beginCrossing 2 none :: TT)) := jk_GV TT_good (jk_4 (tt_t 319 (by decide +kernel) rfl) (tt_t 321 (by decide +kernel) rfl) (tt_s 14 (by decide +kernel) rfl) (tt_t 1 (by decide +kernel) rfl)) cm_beginCrossing
theorem cm_comingAlongOn : Cond.code yX3_comingAlongOn cX3_comingAlongOn 3 (some .int) ∈ TT := tt_t 330 rfl rfl
theorem dd_comingAlongOn : yX3_comingAlongOn.cls = RX3 ∧ yX3_comingAlongOn.cls ≠ "java/lang/invoke/MethodHandle" ∧ yX3_comingAlongOn.cls ≠ "java/lang/invoke/VarHandle" ∧ (parseMethodDescriptor yX3_comingAlongOn.desc).map (fun d => d.parameters.length) = some 2 := by decide +kernel
theorem gv_3_228 : GoodIn TT (wsV RX3 228 RX3 yX3_comingAlongOn (Cond.code yX3_comingAlongOn cX3_comingAlongOn 3 (some .int) :: TT)) := jk_GV TT_good (jk_4 (tt_t 327 (by decide +kernel) rfl) (tt_t 329 (by decide +kernel) rfl) (tt_s 16 (by decide +kernel) rfl) (tt_t 1 (by decide +kernel) rfl)) cm_comingAlongOn
theorem cm_R_beginGreen : Cond.code yX2_beginGreen cX2_beginGreen 2 none ∈ TT := tt_t 342 rfl rfl
theorem dd_R_beginGreen : yX2_beginGreen.cls = RX2 ∧ yX2_beginGreen.cls ≠ "java/lang/invoke/MethodHandle" ∧ yX2_beginGreen.cls ≠ "java/lang/invoke/VarHandle" ∧ (parseMethodDescriptor yX2_beginGreen.desc).map (fun d => d.parameters.length) = some 1 := by decide +kernel
theorem gv_3_231 : GoodIn TT (wsV RX3 231 RX2 yX2_beginGreen (Cond.code yX2_beginGreen cX2_beginGreen 2 none :: TT)) := jk_GV TT_good (jk_4 (tt_t 339 (by decide +kernel) rfl) (tt_t 340 (by decide +kernel) rfl) (tt_t 341 (by decide +kernel) rfl) (tt_t 3 (by decide +kernel) rfl)) cm_R_beginGreen
theorem cm_M_beginGreen : Cond.code yX1_beginGreen cX1_beginGreen 1 none ∈ TT := tt_t 350 rfl rfl
theorem dd_M_beginGreen : yX1_beginGreen.cls = RX1 ∧ yX1_beginGreen.cls ≠ "java/lang/invoke/MethodHandle" ∧ yX1_beginGreen.cls ≠ "java/lang/invoke/VarHandle" ∧ (parseMethodDescriptor yX1_beginGreen.desc).map (fun d => d.parameters.length) = some 0 := by decide +kernel
theorem gv_3_234 : GoodIn TT (wsV RX3 234 RX1 yX1_beginGreen (Cond.code yX1_beginGreen cX1_beginGreen 1 none :: TT)) := jk_GV TT_good (jk_4 (tt_t 347 (by decide +kernel) rfl) (tt_t 348 (by decide +kernel) rfl) (tt_t 349 (by decide +kernel) rfl) (tt_t 2 (by decide +kernel) rfl)) cm_M_beginGreen
theorem cm_G_look : Cond.code yX0_look cX0_look 4 none ∈ TT := tt_t 366 rfl rfl
theorem dd_G_look : yX0_look.cls = RX0 ∧ yX0_look.cls ≠ "java/lang/invoke/MethodHandle" ∧ yX0_look.cls ≠ "java/lang/invoke/VarHandle" ∧ (parseMethodDescriptor yX0_look.desc).map (fun d => d.parameters.length) = some 1 := by decide +kernel
theorem gv_3_236 : GoodIn TT (wsV RX3 236 RX0 yX0_look (Cond.code yX0_look cX0_look 4 none :: TT)) := jk_GV TT_good (jk_4 (tt_t 363 (by decide +kernel) rfl) (tt_t 364 (by decide +kernel) rfl) (tt_t 365 (by decide +kernel) rfl) (tt_t 4 (by decide +kernel) rfl)) cm_G_look
theorem cm_M_comesAlong : Cond.code yX1_comesAlong cX1_comesAlong 1 (some .boolean) ∈ TT := tt_t 334 rfl rfl
theorem dd_M_comesAlong : yX1_comesAlong.cls = RX1 ∧ yX1_comesAlong.cls ≠ "java/lang/invoke/MethodHandle" ∧ yX1_comesAlong.cls ≠ "java/lang/invoke/VarHandle" ∧ (parseMethodDescriptor yX1_comesAlong.desc).map (fun d => d.parameters.length) = some 0 := by decide +kernel
theorem gv_3_240 : GoodIn TT (wsV RX3 240 RX1 yX1_comesAlong (Cond.code yX1_comesAlong cX1_comesAlong 1 (some .boolean) :: TT)) := jk_GV TT_good (jk_4 (tt_t 331 (by decide +kernel) rfl) (tt_t 332 (by decide +kernel) rfl) (tt_t 333 (by decide +kernel) rfl) (tt_t 2 (by decide +kernel) rfl)) cm_M_comesAlong
theorem cm_sideOf : Cond.code yX3_sideOf cX3_sideOf 1 (some .int) ∈ TT := tt_t 261 rfl rfl
theorem dd_sideOf : yX3_sideOf.cls ≠ "java/lang/invoke/MethodHandle" ∧ yX3_sideOf.cls ≠ "java/lang/invoke/VarHandle" ∧ (parseMethodDescriptor yX3_sideOf.desc).map (fun d => d.parameters.length) = some 1 := by decide +kernel
theorem gv_3_243 : GoodIn TT (va_wsS RX3 243 yX3_sideOf (Cond.code yX3_sideOf cX3_sideOf 1 (some .int) :: TT)) := jk_GS TT_good (jk_3 (tt_t 259 (by decide +kernel) rfl) (tt_t 260 (by decide +kernel) rfl) (tt_t 1 (by decide +kernel) rfl)) cm_sideOf
theorem cm_M_isWanted : Cond.code yX1_isWanted cX1_isWanted 2 (some .boolean) ∈ TT := tt_t 242 rfl rfl
theorem dd_M_isWanted : yX1_isWanted.cls = RX1 ∧ yX1_isWanted.cls ≠ "java/lang/invoke/MethodHandle" ∧ yX1_isWanted.cls ≠ "java/lang/invoke/VarHandle" ∧ (parseMethodDescriptor yX1_isWanted.desc).map (fun d => d.parameters.length) = some 0 := by decide +kernel
theorem gv_3_246 : GoodIn TT (wsV RX3 246 RX1 yX1_isWanted (Cond.code yX1_isWanted cX1_isWanted 2 (some .boolean) :: TT)) := jk_GV TT_good (jk_4 (tt_t 239 (by decide +kernel) rfl) (tt_t 240 (by decide +kernel) rfl) (tt_t 241 (by decide +kernel) rfl) (tt_t 2 (by decide +kernel) rfl)) cm_M_isWanted
theorem cm_R_mayEndGreen : Cond.code yX2_mayEndGreen cX2_mayEndGreen 3 (some .boolean) ∈ TT := tt_t 291 rfl rfl
theorem dd_R_mayEndGreen : yX2_mayEndGreen.cls = RX2 ∧ yX2_mayEndGreen.cls ≠ "java/lang/invoke/MethodHandle" ∧ yX2_mayEndGreen.cls ≠ "java/lang/invoke/VarHandle" ∧ (parseMethodDescriptor yX2_mayEndGreen.desc).map (fun d => d.parameters.length) = some 1 := by decide +kernel
theorem gv_3_249 : GoodIn TT (wsV RX3 249 RX2 yX2_mayEndGreen (Cond.code yX2_mayEndGreen cX2_mayEndGreen 3 (some .boolean) :: TT)) := jk_GV TT_good (jk_4 (tt_t 288 (by decide +kernel) rfl) (tt_t 289 (by decide +kernel) rfl) (tt_t 290 (by decide +kernel) rfl) (tt_t 3 (by decide +kernel) rfl)) cm_R_mayEndGreen
theorem cm_areInWay : Cond.code yX3_areInWay cX3_areInWay 2 (some .boolean) ∈ TT := tt_t 372 rfl rfl
theorem dd_areInWay : yX3_areInWay.cls ≠ "java/lang/invoke/MethodHandle" ∧ yX3_areInWay.cls ≠ "java/lang/invoke/VarHandle" ∧ (parseMethodDescriptor yX3_areInWay.desc).map (fun d => d.parameters.length) = some 2 := by decide +kernel
theorem gv_3_252 : GoodIn TT (va_wsS RX3 252 yX3_areInWay (Cond.code yX3_areInWay cX3_areInWay 2 (some .boolean) :: TT)) := jk_GS TT_good (jk_3 (tt_t 370 (by decide +kernel) rfl) (tt_t 371 (by decide +kernel) rfl) (tt_t 1 (by decide +kernel) rfl)) cm_areInWay
theorem gc_anyInTheWay : GoodIn TT (Cond.code yX3_anyInTheWay cX3_anyInTheWay 3 (some .boolean) :: TT) := jk_GI TT_good cm_anyInTheWay
theorem ini_anyInTheWay : Cond.initialized yX3_anyInTheWay.cls ∈ TT := tt_t 1 (by decide +kernel) rfl
theorem sta_anyInTheWay : Cond.static yX3_anyInTheWay ∈ TT := tt_t 368 (by decide +kernel) rfl
theorem cm_G_leastFault : Cond.code yX0_leastFault cX0_leastFault 5 (some .int) ∈ TT := tt_t 376 rfl rfl
theorem dd_G_leastFault : yX0_leastFault.cls = RX0 ∧ yX0_leastFault.cls ≠ "java/lang/invoke/MethodHandle" ∧ yX0_leastFault.cls ≠ "java/lang/invoke/VarHandle" ∧ (parseMethodDescriptor yX0_leastFault.desc).map (fun d => d.parameters.length) = some 2 := by decide +kernel
theorem gv_0_30 : GoodIn TT (wsV RX0 30 RX0 yX0_leastFault (Cond.code yX0_leastFault cX0_leastFault 5 (some .int) :: TT)) := jk_GV TT_good (jk_4 (tt_t 373 (by decide +kernel) rfl) (tt_t 375 (by decide +kernel) rfl) (tt_s 21 (by decide +kernel) rfl) (tt_t 4 (by decide +kernel) rfl)) cm_G_leastFault
theorem cm_G_hadShortYellow : Cond.code yX0_hadShortYellow cX0_hadShortYellow 2 (some .boolean) ∈ TT := tt_t 380 rfl rfl
theorem dd_G_hadShortYellow : yX0_hadShortYellow.cls = RX0 ∧ yX0_hadShortYellow.cls ≠ "java/lang/invoke/MethodHandle" ∧ yX0_hadShortYellow.cls ≠ "java/lang/invoke/VarHandle" ∧ (parseMethodDescriptor yX0_hadShortYellow.desc).map (fun d => d.parameters.length) = some 1 := by decide +kernel
theorem gv_0_34 : GoodIn TT (wsV RX0 34 RX0 yX0_hadShortYellow (Cond.code yX0_hadShortYellow cX0_hadShortYellow 2 (some .boolean) :: TT)) := jk_GV TT_good (jk_4 (tt_t 377 (by decide +kernel) rfl) (tt_t 379 (by decide +kernel) rfl) (tt_s 22 (by decide +kernel) rfl) (tt_t 4 (by decide +kernel) rfl)) cm_G_hadShortYellow
theorem gv_1_40 : GoodIn TT (wsV RX1 40 RX1 yX1_has (Cond.code yX1_has cX1_has 2 (some .boolean) :: TT)) := jk_GV TT_good (jk_4 (tt_t 243 (by decide +kernel) rfl) (tt_t 201 (by decide +kernel) rfl) (tt_t 202 (by decide +kernel) rfl) (tt_t 2 (by decide +kernel) rfl)) cm_M_has
theorem gv_2_37 : GoodIn TT (wsV RX2 37 RX2 yX2_walking (Cond.code yX2_walking cX2_walking 1 (some .int) :: TT)) := jk_GV TT_good (jk_4 (tt_t 292 (by decide +kernel) rfl) (tt_t 293 (by decide +kernel) rfl) (tt_t 294 (by decide +kernel) rfl) (tt_t 3 (by decide +kernel) rfl)) cm_R_walking
theorem cm_R_enter : Cond.code yX2_enter cX2_enter 2 none ∈ TT := tt_t 275 rfl rfl
theorem dd_R_enter : yX2_enter.cls = RX2 ∧ yX2_enter.cls ≠ "java/lang/invoke/MethodHandle" ∧ yX2_enter.cls ≠ "java/lang/invoke/VarHandle" ∧ (parseMethodDescriptor yX2_enter.desc).map (fun d => d.parameters.length) = some 1 := by decide +kernel
theorem gv_2_47 : GoodIn TT (wsV RX2 47 RX2 yX2_enter (Cond.code yX2_enter cX2_enter 2 none :: TT)) := jk_GV TT_good (jk_4 (tt_t 272 (by decide +kernel) rfl) (tt_t 274 (by decide +kernel) rfl) (tt_s 7 (by decide +kernel) rfl) (tt_t 3 (by decide +kernel) rfl)) cm_R_enter
theorem cm_M_wouldWalk : Cond.code yX1_wouldWalk cX1_wouldWalk 1 (some .boolean) ∈ TT := tt_t 346 rfl rfl
theorem dd_M_wouldWalk : yX1_wouldWalk.cls = RX1 ∧ yX1_wouldWalk.cls ≠ "java/lang/invoke/MethodHandle" ∧ yX1_wouldWalk.cls ≠ "java/lang/invoke/VarHandle" ∧ (parseMethodDescriptor yX1_wouldWalk.desc).map (fun d => d.parameters.length) = some 0 := by decide +kernel
theorem gv_2_57 : GoodIn TT (wsV RX2 57 RX1 yX1_wouldWalk (Cond.code yX1_wouldWalk cX1_wouldWalk 1 (some .boolean) :: TT)) := jk_GV TT_good (jk_4 (tt_t 343 (by decide +kernel) rfl) (tt_t 344 (by decide +kernel) rfl) (tt_t 345 (by decide +kernel) rfl) (tt_t 2 (by decide +kernel) rfl)) cm_M_wouldWalk
theorem gv_2_65 : GoodIn TT (wsV RX2 65 RX1 yX1_has (Cond.code yX1_has cX1_has 2 (some .boolean) :: TT)) := jk_GV TT_good (jk_4 (tt_t 266 (by decide +kernel) rfl) (tt_t 201 (by decide +kernel) rfl) (tt_t 202 (by decide +kernel) rfl) (tt_t 2 (by decide +kernel) rfl)) cm_M_has
theorem gv_2_75 : GoodIn TT (wsV RX2 75 RX2 yX2_goDark (Cond.code yX2_goDark cX2_goDark 1 none :: TT)) := jk_GV TT_good (jk_4 (tt_t 276 (by decide +kernel) rfl) (tt_t 277 (by decide +kernel) rfl) (tt_t 278 (by decide +kernel) rfl) (tt_t 3 (by decide +kernel) rfl)) cm_R_goDark
theorem mx_code : Cond.code Lib.Math.max.name Lib.Math.max.code 2 (some .int) ∈ TT := tt_t 250 rfl rfl
theorem mx_1_50 : ∀ w ∈ ([.methodLink RX1 50 Lib.Math.max.name, .static Lib.Math.max.name, .initialized "java/lang/Math"] : List Cond), w ∈ TT := jk_3 (tt_t 248 (by decide +kernel) rfl) (tt_t 249 (by decide +kernel) rfl) (tt_t 6 (by decide +kernel) rfl)
theorem mx_2_69 : ∀ w ∈ ([.methodLink RX2 69 Lib.Math.max.name, .static Lib.Math.max.name, .initialized "java/lang/Math"] : List Cond), w ∈ TT := jk_3 (tt_t 267 (by decide +kernel) rfl) (tt_t 249 (by decide +kernel) rfl) (tt_t 6 (by decide +kernel) rfl)
theorem sl_3_40 : Cond.fieldLink RX3 40 RX3 "LOWEST" "[I" ∈ TT := tt_t 169 (by decide +kernel) rfl
theorem sl_3_43 : Cond.fieldLink RX3 43 RX3 "HIGHEST" "[I" ∈ TT := tt_t 171 (by decide +kernel) rfl
theorem jk_out4 {x : Int32} (h0 : ¬ x = (0 : Int32)) (h1 : ¬ x = (1 : Int32)) (h2 : ¬ x = (2 : Int32)) (h3 : ¬ x = (3 : Int32)) (h4 : ¬ x = (4 : Int32)) : x.toInt < 0 ∨ 4 < x.toInt := by
  have hh : ∀ (k : Int32), ¬ x = k → x.toInt ≠ k.toInt := fun k h q => h (Int32.toInt_inj.mp q)
  have g0 : x.toInt ≠ 0 := hh 0 h0
  have g1 : x.toInt ≠ 1 := hh 1 h1
  have g2 : x.toInt ≠ 2 := hh 2 h2
  have g3 : x.toInt ≠ 3 := hh 3 h3
  have g4 : x.toInt ≠ 4 := hh 4 h4
  omega
theorem jk_out6 {x : Int32} (h0 : ¬ x = (0 : Int32)) (h1 : ¬ x = (1 : Int32)) (h2 : ¬ x = (2 : Int32)) (h3 : ¬ x = (3 : Int32)) (h4 : ¬ x = (4 : Int32)) (h5 : ¬ x = (5 : Int32)) (h6 : ¬ x = (6 : Int32)) : x.toInt < 0 ∨ 6 < x.toInt := by
  have hh : ∀ (k : Int32), ¬ x = k → x.toInt ≠ k.toInt := fun k h q => h (Int32.toInt_inj.mp q)
  have g0 : x.toInt ≠ 0 := hh 0 h0
  have g1 : x.toInt ≠ 1 := hh 1 h1
  have g2 : x.toInt ≠ 2 := hh 2 h2
  have g3 : x.toInt ≠ 3 := hh 3 h3
  have g4 : x.toInt ≠ 4 := hh 4 h4
  have g5 : x.toInt ≠ 5 := hh 5 h5
  have g6 : x.toInt ≠ 6 := hh 6 h6
  omega
theorem jk_out8 {x : Int32} (h0 : ¬ x = (0 : Int32)) (h1 : ¬ x = (1 : Int32)) (h2 : ¬ x = (2 : Int32)) (h3 : ¬ x = (3 : Int32)) (h4 : ¬ x = (4 : Int32)) (h5 : ¬ x = (5 : Int32)) (h6 : ¬ x = (6 : Int32)) (h7 : ¬ x = (7 : Int32)) (h8 : ¬ x = (8 : Int32)) : x.toInt < 0 ∨ 8 < x.toInt := by
  have hh : ∀ (k : Int32), ¬ x = k → x.toInt ≠ k.toInt := fun k h q => h (Int32.toInt_inj.mp q)
  have g0 : x.toInt ≠ 0 := hh 0 h0
  have g1 : x.toInt ≠ 1 := hh 1 h1
  have g2 : x.toInt ≠ 2 := hh 2 h2
  have g3 : x.toInt ≠ 3 := hh 3 h3
  have g4 : x.toInt ≠ 4 := hh 4 h4
  have g5 : x.toInt ≠ 5 := hh 5 h5
  have g6 : x.toInt ≠ 6 := hh 6 h6
  have g7 : x.toInt ≠ 7 := hh 7 h7
  have g8 : x.toInt ≠ 8 := hh 8 h8
  omega
end
section
section WLK
variable {p : Program} {l : Launch} {e : Env} {R : Room} {s : State} {m : MethodId} {args : Array Value} {below : List Frame} {meth : Method} {c : Code} {D : va_G} {z : Nat → ClassId} {a : Nat → Nat} {A : Nat → Prop} {Q : State → Prop}
def rm_M_has : Room := { frames := 0, cells := 0, slots := 0, locals := 0 }
def f_M_has (u : St) (k : Nat) (x0 : Int32) : Int32 := (if ((u 10 k) &&& x0) = (0 : Int32) then (0 : Int32) else (1 : Int32))
set_option maxRecDepth 20000 in
set_option maxHeartbeats 1000000 in
theorem w_M_has_0 {Fr : Int32} {u : St} (B : jk_BI p l e R s m args below meth c cX1_has 2 RX1 TT .boolean D clA (tyl z) (cW z a) A Q rm_M_has (Fr, u)) {k : Nat} (hk : k < 8) (x0 : Int32) (hE : f_M_has u k x0 = Fr) : JJ p l e R s m args below meth c 0 0 2 D clA (cW z a) A Q 0 [(0, .ref (a (7 + k))), (1, .int x0)] u [] := by
  have C := B.1
  unfold f_M_has at hE
  refine j_aload_n C 0 dX1_has_0 rfl ?_
  refine j_get C kf_1 (7 + k) (pl_mv hk) 1 (by decide) lk_1_23 rfl dX1_has_1 ?_
  refine j_iload_n C 1 dX1_has_4 rfl ?_
  refine j_iand C dX1_has_5 ?_
  refine j_if_eq C 13 dX1_has_6 (by decide) (fun c1 => ?_) (fun c1 => ?_)
  · have hE := (if_pos c1).symm.trans hE
    refine j_iconst C 0 dX1_has_13 ic_0 ?_
    exact B.2.2 _ _ _ _ dX1_has_14 rfl (congrArg (fun x => (x, u)) hE)
  · have hE := (if_neg c1).symm.trans hE
    refine j_iconst C 1 dX1_has_9 ic_1 ?_
    refine j_goto C 14 dX1_has_10 (by decide) ?_
    exact B.2.2 _ _ _ _ dX1_has_14 rfl (congrArg (fun x => (x, u)) hE)
theorem c_M_has (l : Launch) (D : va_G) (z : Nat → ClassId) (a : Nat → Nat) (u : St) (k : Nat) (x0 : Int32) (hk : k < 8) : CtI l yX1_has (.code yX1_has cX1_has 2 (some .boolean) :: TT) rm_M_has D clA (tyl z) (cW z a) [.ref (a (7 + k)), .int x0] u (f_M_has u k x0) u :=
  jk_metI (own := RX1) (by decide) rfl (Nat.le_of_ble_eq_true rfl) (fun _ _ _ _ _ _ _ _ _ _ _ B => w_M_has_0 B hk x0 rfl)
def rm_M_isWanted : Room := { frames := 1, cells := 0, slots := 0, locals := 21 }
def f_M_isWanted (u : St) (k : Nat) : Int32 := (if (u 11 k) = (0 : Int32) then (if (u 12 k) = (0 : Int32) then (if (u 13 k) = (0 : Int32) then (if (f_M_has u k (1 : Int32)) = (0 : Int32) then (0 : Int32) else (if (f_M_has u k (28 : Int32)) = (0 : Int32) then (0 : Int32) else (1 : Int32))) else (if (f_M_has u k (1 : Int32)) = (0 : Int32) then (0 : Int32) else (1 : Int32))) else (if (f_M_has u k (1 : Int32)) = (0 : Int32) then (0 : Int32) else (1 : Int32))) else (if (f_M_has u k (1 : Int32)) = (0 : Int32) then (0 : Int32) else (1 : Int32)))
set_option maxRecDepth 20000 in
set_option maxHeartbeats 1000000 in
theorem w_M_isWanted_0 {Fr : Int32} {u : St} (B : jk_BI p l e R s m args below meth c cX1_isWanted 2 RX1 TT .boolean D clA (tyl z) (cW z a) A Q rm_M_isWanted (Fr, u)) {k : Nat} (hk : k < 8) (hE : f_M_isWanted u k = Fr) : JJ p l e R s m args below meth c 0 0 2 D clA (cW z a) A Q 0 [(0, .ref (a (7 + k)))] u [] := by
  have C := B.1
  unfold f_M_isWanted at hE
  refine j_aload_n C 0 dX1_isWanted_0 rfl ?_
  refine j_get C kf_1 (7 + k) (pl_mv hk) 2 (by decide) lk_1_30 rfl dX1_isWanted_1 ?_
  refine j_if_ne C 21 dX1_isWanted_4 (by decide) (fun c1 => ?_) (fun c1 => ?_)
  · have hE := (if_neg c1).symm.trans hE
    refine j_iconst C 1 dX1_isWanted_21 ic_1 ?_
    refine j_goto C 26 dX1_isWanted_22 (by decide) ?_
    refine j_istore_n C dX1_isWanted_26 (by decide) rfl ?_
    refine j_aload_n C 1 dX1_isWanted_27 rfl ?_
    refine j_iconst C 1 dX1_isWanted_28 ic_1 ?_
    refine j_cIV C B.2.1 (c_M_has l D z a u k (1 : Int32) hk) gv_1_40 dd_M_has ⟨⟨rfl, rfl⟩, Nat.le_of_ble_eq_true rfl, Nat.le_of_ble_eq_true rfl⟩ (7 + k) 1 (pl_mv hk) rfl rfl rfl rfl (Nat.le_of_ble_eq_true rfl) dX1_isWanted_29 ?_
    refine j_if_eq C 52 dX1_isWanted_32 (by decide) (fun c2 => ?_) (fun c2 => ?_)
    · have hE := (if_pos c2).symm.trans hE
      refine j_iconst C 0 dX1_isWanted_52 ic_0 ?_
      exact B.2.2 _ _ _ _ dX1_isWanted_53 rfl (congrArg (fun x => (x, u)) hE)
    · have hE := (if_neg c2).symm.trans hE
      refine j_iload_n C 0 dX1_isWanted_35 rfl ?_
      refine j_if_ne C 48 dX1_isWanted_36 (by decide) (fun _ => ?_) (fun hq => False.elim (by revert hq; decide))
      refine j_iconst C 1 dX1_isWanted_48 ic_1 ?_
      refine j_goto C 53 dX1_isWanted_49 (by decide) ?_
      exact B.2.2 _ _ _ _ dX1_isWanted_53 rfl (congrArg (fun x => (x, u)) hE)
  · have hE := (if_pos c1).symm.trans hE
    refine j_aload_n C 0 dX1_isWanted_7 rfl ?_
    refine j_get C kf_1 (7 + k) (pl_mv hk) 3 (by decide) lk_1_34 rfl dX1_isWanted_8 ?_
    refine j_if_ne C 21 dX1_isWanted_11 (by decide) (fun c3 => ?_) (fun c3 => ?_)
    · have hE := (if_neg c3).symm.trans hE
      refine j_iconst C 1 dX1_isWanted_21 ic_1 ?_
      refine j_goto C 26 dX1_isWanted_22 (by decide) ?_
      refine j_istore_n C dX1_isWanted_26 (by decide) rfl ?_
      refine j_aload_n C 1 dX1_isWanted_27 rfl ?_
      refine j_iconst C 1 dX1_isWanted_28 ic_1 ?_
      refine j_cIV C B.2.1 (c_M_has l D z a u k (1 : Int32) hk) gv_1_40 dd_M_has ⟨⟨rfl, rfl⟩, Nat.le_of_ble_eq_true rfl, Nat.le_of_ble_eq_true rfl⟩ (7 + k) 1 (pl_mv hk) rfl rfl rfl rfl (Nat.le_of_ble_eq_true rfl) dX1_isWanted_29 ?_
      refine j_if_eq C 52 dX1_isWanted_32 (by decide) (fun c4 => ?_) (fun c4 => ?_)
      · have hE := (if_pos c4).symm.trans hE
        refine j_iconst C 0 dX1_isWanted_52 ic_0 ?_
        exact B.2.2 _ _ _ _ dX1_isWanted_53 rfl (congrArg (fun x => (x, u)) hE)
      · have hE := (if_neg c4).symm.trans hE
        refine j_iload_n C 0 dX1_isWanted_35 rfl ?_
        refine j_if_ne C 48 dX1_isWanted_36 (by decide) (fun _ => ?_) (fun hq => False.elim (by revert hq; decide))
        refine j_iconst C 1 dX1_isWanted_48 ic_1 ?_
        refine j_goto C 53 dX1_isWanted_49 (by decide) ?_
        exact B.2.2 _ _ _ _ dX1_isWanted_53 rfl (congrArg (fun x => (x, u)) hE)
    · have hE := (if_pos c3).symm.trans hE
      refine j_aload_n C 0 dX1_isWanted_14 rfl ?_
      refine j_get C kf_1 (7 + k) (pl_mv hk) 4 (by decide) lk_1_37 rfl dX1_isWanted_15 ?_
      refine j_if_eq C 25 dX1_isWanted_18 (by decide) (fun c5 => ?_) (fun c5 => ?_)
      · have hE := (if_pos c5).symm.trans hE
        refine j_iconst C 0 dX1_isWanted_25 ic_0 ?_
        refine j_istore_n C dX1_isWanted_26 (by decide) rfl ?_
        refine j_aload_n C 1 dX1_isWanted_27 rfl ?_
        refine j_iconst C 1 dX1_isWanted_28 ic_1 ?_
        refine j_cIV C B.2.1 (c_M_has l D z a u k (1 : Int32) hk) gv_1_40 dd_M_has ⟨⟨rfl, rfl⟩, Nat.le_of_ble_eq_true rfl, Nat.le_of_ble_eq_true rfl⟩ (7 + k) 1 (pl_mv hk) rfl rfl rfl rfl (Nat.le_of_ble_eq_true rfl) dX1_isWanted_29 ?_
        refine j_if_eq C 52 dX1_isWanted_32 (by decide) (fun c6 => ?_) (fun c6 => ?_)
        · have hE := (if_pos c6).symm.trans hE
          refine j_iconst C 0 dX1_isWanted_52 ic_0 ?_
          exact B.2.2 _ _ _ _ dX1_isWanted_53 rfl (congrArg (fun x => (x, u)) hE)
        · have hE := (if_neg c6).symm.trans hE
          refine j_iload_n C 0 dX1_isWanted_35 rfl ?_
          refine j_if_ne C 48 dX1_isWanted_36 (by decide) (fun hq => False.elim (by revert hq; decide)) (fun _ => ?_)
          refine j_aload_n C 1 dX1_isWanted_39 rfl ?_
          refine j_bipush C 28 dX1_isWanted_40 bp_28 ?_
          refine j_cIV C B.2.1 (c_M_has l D z a u k (28 : Int32) hk) gv_1_40 dd_M_has ⟨⟨rfl, rfl⟩, Nat.le_of_ble_eq_true rfl, Nat.le_of_ble_eq_true rfl⟩ (7 + k) 1 (pl_mv hk) rfl rfl rfl rfl (Nat.le_of_ble_eq_true rfl) dX1_isWanted_42 ?_
          refine j_if_eq C 52 dX1_isWanted_45 (by decide) (fun c7 => ?_) (fun c7 => ?_)
          · have hE := (if_pos c7).symm.trans hE
            refine j_iconst C 0 dX1_isWanted_52 ic_0 ?_
            exact B.2.2 _ _ _ _ dX1_isWanted_53 rfl (congrArg (fun x => (x, u)) hE)
          · have hE := (if_neg c7).symm.trans hE
            refine j_iconst C 1 dX1_isWanted_48 ic_1 ?_
            refine j_goto C 53 dX1_isWanted_49 (by decide) ?_
            exact B.2.2 _ _ _ _ dX1_isWanted_53 rfl (congrArg (fun x => (x, u)) hE)
      · have hE := (if_neg c5).symm.trans hE
        refine j_iconst C 1 dX1_isWanted_21 ic_1 ?_
        refine j_goto C 26 dX1_isWanted_22 (by decide) ?_
        refine j_istore_n C dX1_isWanted_26 (by decide) rfl ?_
        refine j_aload_n C 1 dX1_isWanted_27 rfl ?_
        refine j_iconst C 1 dX1_isWanted_28 ic_1 ?_
        refine j_cIV C B.2.1 (c_M_has l D z a u k (1 : Int32) hk) gv_1_40 dd_M_has ⟨⟨rfl, rfl⟩, Nat.le_of_ble_eq_true rfl, Nat.le_of_ble_eq_true rfl⟩ (7 + k) 1 (pl_mv hk) rfl rfl rfl rfl (Nat.le_of_ble_eq_true rfl) dX1_isWanted_29 ?_
        refine j_if_eq C 52 dX1_isWanted_32 (by decide) (fun c8 => ?_) (fun c8 => ?_)
        · have hE := (if_pos c8).symm.trans hE
          refine j_iconst C 0 dX1_isWanted_52 ic_0 ?_
          exact B.2.2 _ _ _ _ dX1_isWanted_53 rfl (congrArg (fun x => (x, u)) hE)
        · have hE := (if_neg c8).symm.trans hE
          refine j_iload_n C 0 dX1_isWanted_35 rfl ?_
          refine j_if_ne C 48 dX1_isWanted_36 (by decide) (fun _ => ?_) (fun hq => False.elim (by revert hq; decide))
          refine j_iconst C 1 dX1_isWanted_48 ic_1 ?_
          refine j_goto C 53 dX1_isWanted_49 (by decide) ?_
          exact B.2.2 _ _ _ _ dX1_isWanted_53 rfl (congrArg (fun x => (x, u)) hE)
theorem c_M_isWanted (l : Launch) (D : va_G) (z : Nat → ClassId) (a : Nat → Nat) (u : St) (k : Nat) (hk : k < 8) : CtI l yX1_isWanted (.code yX1_isWanted cX1_isWanted 2 (some .boolean) :: TT) rm_M_isWanted D clA (tyl z) (cW z a) [.ref (a (7 + k))] u (f_M_isWanted u k) u :=
  jk_metI (own := RX1) (by decide) rfl (Nat.le_of_ble_eq_true rfl) (fun _ _ _ _ _ _ _ _ _ _ _ B => w_M_isWanted_0 B hk rfl)
def rm_M_comesAlong : Room := { frames := 1, cells := 0, slots := 0, locals := 21 }
def f_M_comesAlong (u : St) (k : Nat) : Int32 := (if (f_M_has u k (1 : Int32)) = (0 : Int32) then (0 : Int32) else (if (f_M_has u k (32 : Int32)) = (0 : Int32) then (0 : Int32) else (1 : Int32)))
set_option maxRecDepth 20000 in
set_option maxHeartbeats 1000000 in
theorem w_M_comesAlong_0 {Fr : Int32} {u : St} (B : jk_BI p l e R s m args below meth c cX1_comesAlong 1 RX1 TT .boolean D clA (tyl z) (cW z a) A Q rm_M_comesAlong (Fr, u)) {k : Nat} (hk : k < 8) (hE : f_M_comesAlong u k = Fr) : JJ p l e R s m args below meth c 0 0 1 D clA (cW z a) A Q 0 [(0, .ref (a (7 + k)))] u [] := by
  have C := B.1
  unfold f_M_comesAlong at hE
  refine j_aload_n C 0 dX1_comesAlong_0 rfl ?_
  refine j_iconst C 1 dX1_comesAlong_1 ic_1 ?_
  refine j_cIV C B.2.1 (c_M_has l D z a u k (1 : Int32) hk) gv_1_40 dd_M_has ⟨⟨rfl, rfl⟩, Nat.le_of_ble_eq_true rfl, Nat.le_of_ble_eq_true rfl⟩ (7 + k) 1 (pl_mv hk) rfl rfl rfl rfl (Nat.le_of_ble_eq_true rfl) dX1_comesAlong_2 ?_
  refine j_if_eq C 21 dX1_comesAlong_5 (by decide) (fun c1 => ?_) (fun c1 => ?_)
  · have hE := (if_pos c1).symm.trans hE
    refine j_iconst C 0 dX1_comesAlong_21 ic_0 ?_
    exact B.2.2 _ _ _ _ dX1_comesAlong_22 rfl (congrArg (fun x => (x, u)) hE)
  · have hE := (if_neg c1).symm.trans hE
    refine j_aload_n C 0 dX1_comesAlong_8 rfl ?_
    refine j_bipush C 32 dX1_comesAlong_9 bp_32 ?_
    refine j_cIV C B.2.1 (c_M_has l D z a u k (32 : Int32) hk) gv_1_40 dd_M_has ⟨⟨rfl, rfl⟩, Nat.le_of_ble_eq_true rfl, Nat.le_of_ble_eq_true rfl⟩ (7 + k) 1 (pl_mv hk) rfl rfl rfl rfl (Nat.le_of_ble_eq_true rfl) dX1_comesAlong_11 ?_
    refine j_if_eq C 21 dX1_comesAlong_14 (by decide) (fun c2 => ?_) (fun c2 => ?_)
    · have hE := (if_pos c2).symm.trans hE
      refine j_iconst C 0 dX1_comesAlong_21 ic_0 ?_
      exact B.2.2 _ _ _ _ dX1_comesAlong_22 rfl (congrArg (fun x => (x, u)) hE)
    · have hE := (if_neg c2).symm.trans hE
      refine j_iconst C 1 dX1_comesAlong_17 ic_1 ?_
      refine j_goto C 22 dX1_comesAlong_18 (by decide) ?_
      exact B.2.2 _ _ _ _ dX1_comesAlong_22 rfl (congrArg (fun x => (x, u)) hE)
theorem c_M_comesAlong (l : Launch) (D : va_G) (z : Nat → ClassId) (a : Nat → Nat) (u : St) (k : Nat) (hk : k < 8) : CtI l yX1_comesAlong (.code yX1_comesAlong cX1_comesAlong 1 (some .boolean) :: TT) rm_M_comesAlong D clA (tyl z) (cW z a) [.ref (a (7 + k))] u (f_M_comesAlong u k) u :=
  jk_metI (own := RX1) (by decide) rfl (Nat.le_of_ble_eq_true rfl) (fun _ _ _ _ _ _ _ _ _ _ _ B => w_M_comesAlong_0 B hk rfl)
def rm_M_wouldWalk : Room := { frames := 1, cells := 0, slots := 0, locals := 21 }
def f_M_wouldWalk (u : St) (k : Nat) : Int32 := (if (u (20 + k) 5) ≤ (0 : Int32) then (0 : Int32) else (if (u 13 k) = (0 : Int32) then (if (f_M_has u k (16 : Int32)) = (0 : Int32) then (0 : Int32) else (1 : Int32)) else (1 : Int32)))
set_option maxRecDepth 20000 in
set_option maxHeartbeats 1000000 in
theorem w_M_wouldWalk_0 {Fr : Int32} {u : St} (B : jk_BI p l e R s m args below meth c cX1_wouldWalk 1 RX1 TT .boolean D clA (tyl z) (cW z a) A Q rm_M_wouldWalk (Fr, u)) {k : Nat} (hk : k < 8) (hE : f_M_wouldWalk u k = Fr) : JJ p l e R s m args below meth c 0 0 1 D clA (cW z a) A Q 0 [(0, .ref (a (7 + k)))] u [] := by
  have C := B.1
  unfold f_M_wouldWalk at hE
  refine j_aload_n C 0 dX1_wouldWalk_0 rfl ?_
  refine j_get C kf_1 (7 + k) (pl_mv hk) 0 (by decide) lk_1_18 rfl dX1_wouldWalk_1 ?_
  refine j_iconst C 5 dX1_wouldWalk_4 ic_5 ?_
  refine j_iald C (15 + k) 0 (pl_times hk) rfl 5 ix_5 (by decide) (by decide) dX1_wouldWalk_5 ?_
  refine j_if_le C 29 dX1_wouldWalk_6 (by decide) (fun c1 => ?_) (fun c1 => ?_)
  · have hE := (if_pos c1).symm.trans hE
    refine j_iconst C 0 dX1_wouldWalk_29 ic_0 ?_
    exact B.2.2 _ _ _ _ dX1_wouldWalk_30 rfl (congrArg (fun x => (x, u)) hE)
  · have hE := (if_neg c1).symm.trans hE
    refine j_aload_n C 0 dX1_wouldWalk_9 rfl ?_
    refine j_get C kf_1 (7 + k) (pl_mv hk) 4 (by decide) lk_1_37 rfl dX1_wouldWalk_10 ?_
    refine j_if_ne C 25 dX1_wouldWalk_13 (by decide) (fun c2 => ?_) (fun c2 => ?_)
    · have hE := (if_neg c2).symm.trans hE
      refine j_iconst C 1 dX1_wouldWalk_25 ic_1 ?_
      refine j_goto C 30 dX1_wouldWalk_26 (by decide) ?_
      exact B.2.2 _ _ _ _ dX1_wouldWalk_30 rfl (congrArg (fun x => (x, u)) hE)
    · have hE := (if_pos c2).symm.trans hE
      refine j_aload_n C 0 dX1_wouldWalk_16 rfl ?_
      refine j_bipush C 16 dX1_wouldWalk_17 bp_16 ?_
      refine j_cIV C B.2.1 (c_M_has l D z a u k (16 : Int32) hk) gv_1_40 dd_M_has ⟨⟨rfl, rfl⟩, Nat.le_of_ble_eq_true rfl, Nat.le_of_ble_eq_true rfl⟩ (7 + k) 1 (pl_mv hk) rfl rfl rfl rfl (Nat.le_of_ble_eq_true rfl) dX1_wouldWalk_19 ?_
      refine j_if_eq C 29 dX1_wouldWalk_22 (by decide) (fun c3 => ?_) (fun c3 => ?_)
      · have hE := (if_pos c3).symm.trans hE
        refine j_iconst C 0 dX1_wouldWalk_29 ic_0 ?_
        exact B.2.2 _ _ _ _ dX1_wouldWalk_30 rfl (congrArg (fun x => (x, u)) hE)
      · have hE := (if_neg c3).symm.trans hE
        refine j_iconst C 1 dX1_wouldWalk_25 ic_1 ?_
        refine j_goto C 30 dX1_wouldWalk_26 (by decide) ?_
        exact B.2.2 _ _ _ _ dX1_wouldWalk_30 rfl (congrArg (fun x => (x, u)) hE)
theorem c_M_wouldWalk (l : Launch) (D : va_G) (z : Nat → ClassId) (a : Nat → Nat) (u : St) (k : Nat) (hk : k < 8) : CtI l yX1_wouldWalk (.code yX1_wouldWalk cX1_wouldWalk 1 (some .boolean) :: TT) rm_M_wouldWalk D clA (tyl z) (cW z a) [.ref (a (7 + k))] u (f_M_wouldWalk u k) u :=
  jk_metI (own := RX1) (by decide) rfl (Nat.le_of_ble_eq_true rfl) (fun _ _ _ _ _ _ _ _ _ _ _ B => w_M_wouldWalk_0 B hk rfl)
def rm_M_countWait : Room := { frames := 1, cells := 0, slots := 0, locals := 14 }
def f_M_countWait (u : St) (k : Nat) (b0 : Int32) : St := (if b0 = (0 : Int32) then (up2 (up2 u 14 k (0 : Int32)) 15 k (if ((up2 u 14 k (0 : Int32)) 15 k) < ((up2 u 14 k (0 : Int32)) 14 k) then ((up2 u 14 k (0 : Int32)) 14 k) else ((up2 u 14 k (0 : Int32)) 15 k))) else (up2 (up2 u 14 k ((u 14 k) + (1 : Int32))) 15 k (if ((up2 u 14 k ((u 14 k) + (1 : Int32))) 15 k) < ((up2 u 14 k ((u 14 k) + (1 : Int32))) 14 k) then ((up2 u 14 k ((u 14 k) + (1 : Int32))) 14 k) else ((up2 u 14 k ((u 14 k) + (1 : Int32))) 15 k))))
set_option maxRecDepth 20000 in
set_option maxHeartbeats 1000000 in
theorem w_M_countWait_0 {F : St} {u : St} (B : jk_BV p l e R s m args below meth c cX1_countWait 2 RX1 TT D clA (tyl z) (cW z a) A Q rm_M_countWait F) {k : Nat} (hk : k < 8) (b0 : Int32) (hE : f_M_countWait u k b0 = F) : JJ p l e R s m args below meth c 0 0 2 D clA (cW z a) A Q 0 [(0, .ref (a (7 + k))), (1, .int b0)] u [] := by
  have C := B.1
  unfold f_M_countWait at hE
  refine j_aload_n C 0 dX1_countWait_0 rfl ?_
  refine j_iload_n C 1 dX1_countWait_1 rfl ?_
  refine j_if_eq C 14 dX1_countWait_2 (by decide) (fun c1 => ?_) (fun c1 => ?_)
  · have hE := (if_pos c1).symm.trans hE
    refine j_iconst C 0 dX1_countWait_14 ic_0 ?_
    refine j_put C kf_1 (7 + k) (pl_mv hk) 5 (by decide) lk_1_44 rfl rfl rfl (Nat.le_of_ble_eq_true rfl) (pu_mv_waited hk) dX1_countWait_15 ?_
    refine j_aload_n C 0 dX1_countWait_18 rfl ?_
    refine j_aload_n C 0 dX1_countWait_19 rfl ?_
    refine j_get C kf_1 (7 + k) (pl_mv hk) 6 (by decide) lk_1_47 rfl dX1_countWait_20 ?_
    refine j_aload_n C 0 dX1_countWait_23 rfl ?_
    refine j_get C kf_1 (7 + k) (pl_mv hk) 5 (by decide) lk_1_44 rfl dX1_countWait_24 ?_
    refine j_max C B.2.1 (Nat.le_of_ble_eq_true rfl) (Nat.le_of_ble_eq_true rfl) mx_1_50 mx_code dX1_countWait_27 ?_
    refine j_put C kf_1 (7 + k) (pl_mv hk) 6 (by decide) lk_1_47 rfl rfl rfl (Nat.le_of_ble_eq_true rfl) (pu_mv_longestWait hk) dX1_countWait_30 ?_
    exact B.2.2 _ _ _ dX1_countWait_33 hE
  · have hE := (if_neg c1).symm.trans hE
    refine j_aload_n C 0 dX1_countWait_5 rfl ?_
    refine j_get C kf_1 (7 + k) (pl_mv hk) 5 (by decide) lk_1_44 rfl dX1_countWait_6 ?_
    refine j_iconst C 1 dX1_countWait_9 ic_1 ?_
    refine j_iadd C dX1_countWait_10 ?_
    refine j_goto C 15 dX1_countWait_11 (by decide) ?_
    refine j_put C kf_1 (7 + k) (pl_mv hk) 5 (by decide) lk_1_44 rfl rfl rfl (Nat.le_of_ble_eq_true rfl) (pu_mv_waited hk) dX1_countWait_15 ?_
    refine j_aload_n C 0 dX1_countWait_18 rfl ?_
    refine j_aload_n C 0 dX1_countWait_19 rfl ?_
    refine j_get C kf_1 (7 + k) (pl_mv hk) 6 (by decide) lk_1_47 rfl dX1_countWait_20 ?_
    refine j_aload_n C 0 dX1_countWait_23 rfl ?_
    refine j_get C kf_1 (7 + k) (pl_mv hk) 5 (by decide) lk_1_44 rfl dX1_countWait_24 ?_
    refine j_max C B.2.1 (Nat.le_of_ble_eq_true rfl) (Nat.le_of_ble_eq_true rfl) mx_1_50 mx_code dX1_countWait_27 ?_
    refine j_put C kf_1 (7 + k) (pl_mv hk) 6 (by decide) lk_1_47 rfl rfl rfl (Nat.le_of_ble_eq_true rfl) (pu_mv_longestWait hk) dX1_countWait_30 ?_
    exact B.2.2 _ _ _ dX1_countWait_33 hE
theorem c_M_countWait (l : Launch) (D : va_G) (z : Nat → ClassId) (a : Nat → Nat) (u : St) (k : Nat) (b0 : Int32) (hk : k < 8) : CtV l yX1_countWait (.code yX1_countWait cX1_countWait 2 none :: TT) rm_M_countWait D clA (tyl z) (cW z a) [.ref (a (7 + k)), .int b0] u (f_M_countWait u k b0) :=
  jk_metV (own := RX1) (by decide) rfl (Nat.le_of_ble_eq_true rfl) (fun _ _ _ _ _ _ _ _ _ _ _ B => w_M_countWait_0 B hk b0 rfl)
def rm_M_beginGreen : Room := { frames := 0, cells := 0, slots := 0, locals := 0 }
def f_M_beginGreen (u : St) (k : Nat) : St := (up2 (up2 (up2 u 12 k (0 : Int32)) 13 k (0 : Int32)) 16 k (((up2 (up2 u 12 k (0 : Int32)) 13 k (0 : Int32)) 16 k) + (1 : Int32)))
set_option maxRecDepth 20000 in
set_option maxHeartbeats 1000000 in
theorem w_M_beginGreen_0 {F : St} {u : St} (B : jk_BV p l e R s m args below meth c cX1_beginGreen 1 RX1 TT D clA (tyl z) (cW z a) A Q rm_M_beginGreen F) {k : Nat} (hk : k < 8) (hE : f_M_beginGreen u k = F) : JJ p l e R s m args below meth c 0 0 1 D clA (cW z a) A Q 0 [(0, .ref (a (7 + k)))] u [] := by
  have C := B.1
  unfold f_M_beginGreen at hE
  refine j_aload_n C 0 dX1_beginGreen_0 rfl ?_
  refine j_iconst C 0 dX1_beginGreen_1 ic_0 ?_
  refine j_put C kf_1 (7 + k) (pl_mv hk) 3 (by decide) lk_1_34 rfl rfl rfl (Nat.le_of_ble_eq_true rfl) (pu_mv_remembered hk) dX1_beginGreen_2 ?_
  refine j_aload_n C 0 dX1_beginGreen_5 rfl ?_
  refine j_iconst C 0 dX1_beginGreen_6 ic_0 ?_
  refine j_put C kf_1 (7 + k) (pl_mv hk) 4 (by decide) lk_1_37 rfl rfl rfl (Nat.le_of_ble_eq_true rfl) (pu_mv_pushed hk) dX1_beginGreen_7 ?_
  refine j_aload_n C 0 dX1_beginGreen_10 rfl ?_
  refine j_dup C dX1_beginGreen_11 rfl ?_
  refine j_get C kf_1 (7 + k) (pl_mv hk) 7 (by decide) lk_1_56 rfl dX1_beginGreen_12 ?_
  refine j_iconst C 1 dX1_beginGreen_15 ic_1 ?_
  refine j_iadd C dX1_beginGreen_16 ?_
  refine j_put C kf_1 (7 + k) (pl_mv hk) 7 (by decide) lk_1_56 rfl rfl rfl (Nat.le_of_ble_eq_true rfl) (pu_mv_greens hk) dX1_beginGreen_17 ?_
  exact B.2.2 _ _ _ dX1_beginGreen_20 hE
theorem c_M_beginGreen (l : Launch) (D : va_G) (z : Nat → ClassId) (a : Nat → Nat) (u : St) (k : Nat) (hk : k < 8) : CtV l yX1_beginGreen (.code yX1_beginGreen cX1_beginGreen 1 none :: TT) rm_M_beginGreen D clA (tyl z) (cW z a) [.ref (a (7 + k))] u (f_M_beginGreen u k) :=
  jk_metV (own := RX1) (by decide) rfl (Nat.le_of_ble_eq_true rfl) (fun _ _ _ _ _ _ _ _ _ _ _ B => w_M_beginGreen_0 B hk rfl)
def rm_R_first : Room := { frames := 0, cells := 0, slots := 0, locals := 0 }
def f_R_first (u : St) (r : Nat) (x0 : Int32) : Int32 := (if (u (40 + r) (x0.toNatClampNeg)) = (0 : Int32) then (((nI (4 * r)) + ((2 : Int32) * x0)) + (0 : Int32)) else (((nI (4 * r)) + ((2 : Int32) * x0)) + (1 : Int32)))
def g_R_first (u : St) (r : Nat) (x0 : Int32) : Prop := (vp_in x0 2)
set_option maxRecDepth 20000 in
set_option maxHeartbeats 1000000 in
theorem w_R_first_0 {Fr : Int32} {u : St} (B : jk_BI p l e R s m args below meth c cX2_first 2 RX2 TT .int D clA (tyl z) (cW z a) A Q rm_R_first (Fr, u)) {r : Nat} (hr : r < 2) (x0 : Int32) (hE : f_R_first u r x0 = Fr) (hG : g_R_first u r x0) : JJ p l e R s m args below meth c 0 0 2 D clA (cW z a) A Q 0 [(0, .ref (a (23 + r))), (1, .int x0)] u [] := by
  have C := B.1
  unfold f_R_first at hE
  unfold g_R_first at hG
  refine j_aload_n C 0 dX2_first_0 rfl ?_
  refine j_get C kf_2 (23 + r) (pl_rg hr) 0 (by decide) lk_2_9 rfl dX2_first_1 ?_
  refine j_iconst C 2 dX2_first_4 ic_2 ?_
  refine j_iload_n C 1 dX2_first_5 rfl ?_
  refine j_imul C dX2_first_6 ?_
  refine j_iadd C dX2_first_7 ?_
  refine j_aload_n C 0 dX2_first_8 rfl ?_
  refine j_get C kf_2 (23 + r) (pl_rg hr) 1 (by decide) lk_2_15 rfl dX2_first_9 ?_
  refine j_iload_n C 1 dX2_first_12 rfl ?_
  have hv1 := hG
  have lhv1 := jk_lt hv1
  refine j_zald C (25 + r) 1 (pl_ex hr) rfl (x0.toNatClampNeg) (jk_self hv1 (by decide)) (jk_lt hv1) (by decide) dX2_first_13 ?_
  refine j_if_eq C 21 dX2_first_14 (by decide) (fun c2 => ?_) (fun c2 => ?_)
  · have hE := (if_pos c2).symm.trans hE
    refine j_iconst C 0 dX2_first_21 ic_0 ?_
    refine j_iadd C dX2_first_22 ?_
    exact B.2.2 _ _ _ _ dX2_first_23 rfl (congrArg (fun x => (x, u)) hE)
  · have hE := (if_neg c2).symm.trans hE
    refine j_iconst C 1 dX2_first_17 ic_1 ?_
    refine j_goto C 22 dX2_first_18 (by decide) ?_
    refine j_iadd C dX2_first_22 ?_
    exact B.2.2 _ _ _ _ dX2_first_23 rfl (congrArg (fun x => (x, u)) hE)
theorem c_R_first (l : Launch) (D : va_G) (z : Nat → ClassId) (a : Nat → Nat) (u : St) (r : Nat) (x0 : Int32) (hr : r < 2) (hG : g_R_first u r x0) : CtI l yX2_first (.code yX2_first cX2_first 2 (some .int) :: TT) rm_R_first D clA (tyl z) (cW z a) [.ref (a (23 + r)), .int x0] u (f_R_first u r x0) u :=
  jk_metI (own := RX2) (by decide) rfl (Nat.le_of_ble_eq_true rfl) (fun _ _ _ _ _ _ _ _ _ _ _ B => w_R_first_0 B hr x0 rfl hG)
def rm_R_second : Room := { frames := 0, cells := 0, slots := 0, locals := 0 }
def f_R_second (u : St) (r : Nat) (x0 : Int32) : Int32 := (if (u (40 + r) (x0.toNatClampNeg)) = (0 : Int32) then (((nI (4 * r)) + ((2 : Int32) * x0)) + (1 : Int32)) else (((nI (4 * r)) + ((2 : Int32) * x0)) + (0 : Int32)))
def g_R_second (u : St) (r : Nat) (x0 : Int32) : Prop := (vp_in x0 2)
set_option maxRecDepth 20000 in
set_option maxHeartbeats 1000000 in
theorem w_R_second_0 {Fr : Int32} {u : St} (B : jk_BI p l e R s m args below meth c cX2_second 2 RX2 TT .int D clA (tyl z) (cW z a) A Q rm_R_second (Fr, u)) {r : Nat} (hr : r < 2) (x0 : Int32) (hE : f_R_second u r x0 = Fr) (hG : g_R_second u r x0) : JJ p l e R s m args below meth c 0 0 2 D clA (cW z a) A Q 0 [(0, .ref (a (23 + r))), (1, .int x0)] u [] := by
  have C := B.1
  unfold f_R_second at hE
  unfold g_R_second at hG
  refine j_aload_n C 0 dX2_second_0 rfl ?_
  refine j_get C kf_2 (23 + r) (pl_rg hr) 0 (by decide) lk_2_9 rfl dX2_second_1 ?_
  refine j_iconst C 2 dX2_second_4 ic_2 ?_
  refine j_iload_n C 1 dX2_second_5 rfl ?_
  refine j_imul C dX2_second_6 ?_
  refine j_iadd C dX2_second_7 ?_
  refine j_aload_n C 0 dX2_second_8 rfl ?_
  refine j_get C kf_2 (23 + r) (pl_rg hr) 1 (by decide) lk_2_15 rfl dX2_second_9 ?_
  refine j_iload_n C 1 dX2_second_12 rfl ?_
  have hv1 := hG
  have lhv1 := jk_lt hv1
  refine j_zald C (25 + r) 1 (pl_ex hr) rfl (x0.toNatClampNeg) (jk_self hv1 (by decide)) (jk_lt hv1) (by decide) dX2_second_13 ?_
  refine j_if_eq C 21 dX2_second_14 (by decide) (fun c2 => ?_) (fun c2 => ?_)
  · have hE := (if_pos c2).symm.trans hE
    refine j_iconst C 1 dX2_second_21 ic_1 ?_
    refine j_iadd C dX2_second_22 ?_
    exact B.2.2 _ _ _ _ dX2_second_23 rfl (congrArg (fun x => (x, u)) hE)
  · have hE := (if_neg c2).symm.trans hE
    refine j_iconst C 0 dX2_second_17 ic_0 ?_
    refine j_goto C 22 dX2_second_18 (by decide) ?_
    refine j_iadd C dX2_second_22 ?_
    exact B.2.2 _ _ _ _ dX2_second_23 rfl (congrArg (fun x => (x, u)) hE)
theorem c_R_second (l : Launch) (D : va_G) (z : Nat → ClassId) (a : Nat → Nat) (u : St) (r : Nat) (x0 : Int32) (hr : r < 2) (hG : g_R_second u r x0) : CtI l yX2_second (.code yX2_second cX2_second 2 (some .int) :: TT) rm_R_second D clA (tyl z) (cW z a) [.ref (a (23 + r)), .int x0] u (f_R_second u r x0) u :=
  jk_metI (own := RX2) (by decide) rfl (Nat.le_of_ble_eq_true rfl) (fun _ _ _ _ _ _ _ _ _ _ _ B => w_R_second_0 B hr x0 rfl hG)
def rm_R_isBusyWith : Room := { frames := 0, cells := 0, slots := 0, locals := 0 }
def f_R_isBusyWith (u : St) (r : Nat) (x0 : Int32) : Int32 := (if (u 30 r) = x0 then (1 : Int32) else (if (u 35 r) = x0 then (1 : Int32) else (0 : Int32)))
set_option maxRecDepth 20000 in
set_option maxHeartbeats 1000000 in
theorem w_R_isBusyWith_0 {Fr : Int32} {u : St} (B : jk_BI p l e R s m args below meth c cX2_isBusyWith 2 RX2 TT .boolean D clA (tyl z) (cW z a) A Q rm_R_isBusyWith (Fr, u)) {r : Nat} (hr : r < 2) (x0 : Int32) (hE : f_R_isBusyWith u r x0 = Fr) : JJ p l e R s m args below meth c 0 0 2 D clA (cW z a) A Q 0 [(0, .ref (a (23 + r))), (1, .int x0)] u [] := by
  have C := B.1
  unfold f_R_isBusyWith at hE
  refine j_aload_n C 0 dX2_isBusyWith_0 rfl ?_
  refine j_get C kf_2 (23 + r) (pl_rg hr) 2 (by decide) lk_2_19 rfl dX2_isBusyWith_1 ?_
  refine j_iload_n C 1 dX2_isBusyWith_4 rfl ?_
  refine j_icmp_eq C 16 dX2_isBusyWith_5 (by decide) (fun c1 => ?_) (fun c1 => ?_)
  · have hE := (if_pos c1).symm.trans hE
    refine j_iconst C 1 dX2_isBusyWith_16 ic_1 ?_
    refine j_goto C 21 dX2_isBusyWith_17 (by decide) ?_
    exact B.2.2 _ _ _ _ dX2_isBusyWith_21 rfl (congrArg (fun x => (x, u)) hE)
  · have hE := (if_neg c1).symm.trans hE
    refine j_aload_n C 0 dX2_isBusyWith_8 rfl ?_
    refine j_get C kf_2 (23 + r) (pl_rg hr) 7 (by decide) lk_2_25 rfl dX2_isBusyWith_9 ?_
    refine j_iload_n C 1 dX2_isBusyWith_12 rfl ?_
    refine j_icmp_ne C 20 dX2_isBusyWith_13 (by decide) (fun c2 => ?_) (fun c2 => ?_)
    · have hE := (if_neg c2).symm.trans hE
      refine j_iconst C 0 dX2_isBusyWith_20 ic_0 ?_
      exact B.2.2 _ _ _ _ dX2_isBusyWith_21 rfl (congrArg (fun x => (x, u)) hE)
    · have hE := (if_pos c2).symm.trans hE
      refine j_iconst C 1 dX2_isBusyWith_16 ic_1 ?_
      refine j_goto C 21 dX2_isBusyWith_17 (by decide) ?_
      exact B.2.2 _ _ _ _ dX2_isBusyWith_21 rfl (congrArg (fun x => (x, u)) hE)
theorem c_R_isBusyWith (l : Launch) (D : va_G) (z : Nat → ClassId) (a : Nat → Nat) (u : St) (r : Nat) (x0 : Int32) (hr : r < 2) : CtI l yX2_isBusyWith (.code yX2_isBusyWith cX2_isBusyWith 2 (some .boolean) :: TT) rm_R_isBusyWith D clA (tyl z) (cW z a) [.ref (a (23 + r)), .int x0] u (f_R_isBusyWith u r x0) u :=
  jk_metI (own := RX2) (by decide) rfl (Nat.le_of_ble_eq_true rfl) (fun _ _ _ _ _ _ _ _ _ _ _ B => w_R_isBusyWith_0 B hr x0 rfl)
def rm_R_walking : Room := { frames := 0, cells := 0, slots := 0, locals := 0 }
def f_R_walking (u : St) (r : Nat) : Int32 := (if (u 36 r) ≤ (0 : Int32) then (if (u 37 r) ≤ (0 : Int32) then (0 : Int32) else (2 : Int32)) else (1 : Int32))
set_option maxRecDepth 20000 in
set_option maxHeartbeats 1000000 in
theorem w_R_walking_0 {Fr : Int32} {u : St} (B : jk_BI p l e R s m args below meth c cX2_walking 1 RX2 TT .int D clA (tyl z) (cW z a) A Q rm_R_walking (Fr, u)) {r : Nat} (hr : r < 2) (hE : f_R_walking u r = Fr) : JJ p l e R s m args below meth c 0 0 1 D clA (cW z a) A Q 0 [(0, .ref (a (23 + r)))] u [] := by
  have C := B.1
  unfold f_R_walking at hE
  refine j_aload_n C 0 dX2_walking_0 rfl ?_
  refine j_get C kf_2 (23 + r) (pl_rg hr) 8 (by decide) lk_2_28 rfl dX2_walking_1 ?_
  refine j_if_le C 9 dX2_walking_4 (by decide) (fun c1 => ?_) (fun c1 => ?_)
  · have hE := (if_pos c1).symm.trans hE
    refine j_aload_n C 0 dX2_walking_9 rfl ?_
    refine j_get C kf_2 (23 + r) (pl_rg hr) 9 (by decide) lk_2_31 rfl dX2_walking_10 ?_
    refine j_if_le C 20 dX2_walking_13 (by decide) (fun c2 => ?_) (fun c2 => ?_)
    · have hE := (if_pos c2).symm.trans hE
      refine j_iconst C 0 dX2_walking_20 ic_0 ?_
      exact B.2.2 _ _ _ _ dX2_walking_21 rfl (congrArg (fun x => (x, u)) hE)
    · have hE := (if_neg c2).symm.trans hE
      refine j_iconst C 2 dX2_walking_16 ic_2 ?_
      refine j_goto C 21 dX2_walking_17 (by decide) ?_
      exact B.2.2 _ _ _ _ dX2_walking_21 rfl (congrArg (fun x => (x, u)) hE)
  · have hE := (if_neg c1).symm.trans hE
    refine j_iconst C 1 dX2_walking_7 ic_1 ?_
    exact B.2.2 _ _ _ _ dX2_walking_8 rfl (congrArg (fun x => (x, u)) hE)
theorem c_R_walking (l : Launch) (D : va_G) (z : Nat → ClassId) (a : Nat → Nat) (u : St) (r : Nat) (hr : r < 2) : CtI l yX2_walking (.code yX2_walking cX2_walking 1 (some .int) :: TT) rm_R_walking D clA (tyl z) (cW z a) [.ref (a (23 + r))] u (f_R_walking u r) u :=
  jk_metI (own := RX2) (by decide) rfl (Nat.le_of_ble_eq_true rfl) (fun _ _ _ _ _ _ _ _ _ _ _ B => w_R_walking_0 B hr rfl)
def rm_R_mayEndGreen : Room := { frames := 1, cells := 0, slots := 0, locals := 20 }
def f_R_mayEndGreen (u : St) (r : Nat) (k : Nat) : Int32 := (if (u 32 r) < (u (20 + k) 0) then (0 : Int32) else (if (f_R_walking u r) = (0 : Int32) then (if (u 33 r) = (0 : Int32) then (1 : Int32) else (if (u 34 r) < (u (20 + k) 2) then (0 : Int32) else (1 : Int32))) else (0 : Int32)))
set_option maxRecDepth 20000 in
set_option maxHeartbeats 1000000 in
theorem w_R_mayEndGreen_0 {Fr : Int32} {u : St} (B : jk_BI p l e R s m args below meth c cX2_mayEndGreen 3 RX2 TT .boolean D clA (tyl z) (cW z a) A Q rm_R_mayEndGreen (Fr, u)) {r : Nat} (hr : r < 2) {k : Nat} (hk : k < 8) (hE : f_R_mayEndGreen u r k = Fr) : JJ p l e R s m args below meth c 0 0 3 D clA (cW z a) A Q 0 [(0, .ref (a (23 + r))), (1, .ref (a (15 + k)))] u [] := by
  have C := B.1
  unfold f_R_mayEndGreen at hE
  refine j_aload_n C 0 dX2_mayEndGreen_0 rfl ?_
  refine j_get C kf_2 (23 + r) (pl_rg hr) 4 (by decide) lk_2_34 rfl dX2_mayEndGreen_1 ?_
  refine j_aload_n C 1 dX2_mayEndGreen_4 rfl ?_
  refine j_iconst C 0 dX2_mayEndGreen_5 ic_0 ?_
  refine j_iald C (15 + k) 0 (pl_times hk) rfl 0 ix_0 (by decide) (by decide) dX2_mayEndGreen_6 ?_
  refine j_icmp_lt C 21 dX2_mayEndGreen_7 (by decide) (fun c1 => ?_) (fun c1 => ?_)
  · have hE := (if_pos c1).symm.trans hE
    refine j_iconst C 0 dX2_mayEndGreen_21 ic_0 ?_
    refine j_istore_n C dX2_mayEndGreen_22 (by decide) rfl ?_
    refine j_iload_n C 0 dX2_mayEndGreen_23 rfl ?_
    refine j_if_eq C 48 dX2_mayEndGreen_24 (by decide) (fun _ => ?_) (fun hq => False.elim (by revert hq; decide))
    refine j_iconst C 0 dX2_mayEndGreen_48 ic_0 ?_
    exact B.2.2 _ _ _ _ dX2_mayEndGreen_49 rfl (congrArg (fun x => (x, u)) hE)
  · have hE := (if_neg c1).symm.trans hE
    refine j_aload_n C 0 dX2_mayEndGreen_10 rfl ?_
    refine j_cIV C B.2.1 (c_R_walking l D z a u r hr) gv_2_37 dd_R_walking ⟨⟨rfl, rfl⟩, Nat.le_of_ble_eq_true rfl, Nat.le_of_ble_eq_true rfl⟩ (23 + r) 2 (pl_rg hr) rfl rfl rfl rfl (Nat.le_of_ble_eq_true rfl) dX2_mayEndGreen_11 ?_
    refine j_if_ne C 21 dX2_mayEndGreen_14 (by decide) (fun c2 => ?_) (fun c2 => ?_)
    · have hE := (if_neg c2).symm.trans hE
      refine j_iconst C 0 dX2_mayEndGreen_21 ic_0 ?_
      refine j_istore_n C dX2_mayEndGreen_22 (by decide) rfl ?_
      refine j_iload_n C 0 dX2_mayEndGreen_23 rfl ?_
      refine j_if_eq C 48 dX2_mayEndGreen_24 (by decide) (fun _ => ?_) (fun hq => False.elim (by revert hq; decide))
      refine j_iconst C 0 dX2_mayEndGreen_48 ic_0 ?_
      exact B.2.2 _ _ _ _ dX2_mayEndGreen_49 rfl (congrArg (fun x => (x, u)) hE)
    · have hE := (if_pos c2).symm.trans hE
      refine j_iconst C 1 dX2_mayEndGreen_17 ic_1 ?_
      refine j_goto C 22 dX2_mayEndGreen_18 (by decide) ?_
      refine j_istore_n C dX2_mayEndGreen_22 (by decide) rfl ?_
      refine j_iload_n C 0 dX2_mayEndGreen_23 rfl ?_
      refine j_if_eq C 48 dX2_mayEndGreen_24 (by decide) (fun hq => False.elim (by revert hq; decide)) (fun _ => ?_)
      refine j_aload_n C 1 dX2_mayEndGreen_27 rfl ?_
      refine j_get C kf_2 (23 + r) (pl_rg hr) 5 (by decide) lk_2_41 rfl dX2_mayEndGreen_28 ?_
      refine j_if_eq C 44 dX2_mayEndGreen_31 (by decide) (fun c3 => ?_) (fun c3 => ?_)
      · have hE := (if_pos c3).symm.trans hE
        refine j_iconst C 1 dX2_mayEndGreen_44 ic_1 ?_
        refine j_goto C 49 dX2_mayEndGreen_45 (by decide) ?_
        exact B.2.2 _ _ _ _ dX2_mayEndGreen_49 rfl (congrArg (fun x => (x, u)) hE)
      · have hE := (if_neg c3).symm.trans hE
        refine j_aload_n C 1 dX2_mayEndGreen_34 rfl ?_
        refine j_get C kf_2 (23 + r) (pl_rg hr) 6 (by decide) lk_2_44 rfl dX2_mayEndGreen_35 ?_
        refine j_aload_n C 2 dX2_mayEndGreen_38 rfl ?_
        refine j_iconst C 2 dX2_mayEndGreen_39 ic_2 ?_
        refine j_iald C (15 + k) 0 (pl_times hk) rfl 2 ix_2 (by decide) (by decide) dX2_mayEndGreen_40 ?_
        refine j_icmp_lt C 48 dX2_mayEndGreen_41 (by decide) (fun c4 => ?_) (fun c4 => ?_)
        · have hE := (if_pos c4).symm.trans hE
          refine j_iconst C 0 dX2_mayEndGreen_48 ic_0 ?_
          exact B.2.2 _ _ _ _ dX2_mayEndGreen_49 rfl (congrArg (fun x => (x, u)) hE)
        · have hE := (if_neg c4).symm.trans hE
          refine j_iconst C 1 dX2_mayEndGreen_44 ic_1 ?_
          refine j_goto C 49 dX2_mayEndGreen_45 (by decide) ?_
          exact B.2.2 _ _ _ _ dX2_mayEndGreen_49 rfl (congrArg (fun x => (x, u)) hE)
theorem c_R_mayEndGreen (l : Launch) (D : va_G) (z : Nat → ClassId) (a : Nat → Nat) (u : St) (r : Nat) (k : Nat) (hr : r < 2) (hk : k < 8) : CtI l yX2_mayEndGreen (.code yX2_mayEndGreen cX2_mayEndGreen 3 (some .boolean) :: TT) rm_R_mayEndGreen D clA (tyl z) (cW z a) [.ref (a (23 + r)), .ref (a (15 + k))] u (f_R_mayEndGreen u r k) u :=
  jk_metI (own := RX2) (by decide) rfl (Nat.le_of_ble_eq_true rfl) (fun _ _ _ _ _ _ _ _ _ _ _ B => w_R_mayEndGreen_0 B hr hk rfl)
end WLK
end
section
section WLK
variable {p : Program} {l : Launch} {e : Env} {R : Room} {s : State} {m : MethodId} {args : Array Value} {below : List Frame} {meth : Method} {c : Code} {D : va_G} {z : Nat → ClassId} {a : Nat → Nat} {A : Nat → Prop} {Q : State → Prop}
def rm_R_enter : Room := { frames := 0, cells := 0, slots := 0, locals := 0 }
def f_R_enter (u : St) (r : Nat) (x0 : Int32) : St := (up2 (up2 (up2 (up2 (up2 (up2 u 31 r x0) 32 r (0 : Int32)) 33 r (0 : Int32)) 34 r (0 : Int32)) 36 r (0 : Int32)) 37 r (0 : Int32))
set_option maxRecDepth 20000 in
set_option maxHeartbeats 1000000 in
theorem w_R_enter_0 {F : St} {u : St} (B : jk_BV p l e R s m args below meth c cX2_enter 2 RX2 TT D clA (tyl z) (cW z a) A Q rm_R_enter F) {r : Nat} (hr : r < 2) (x0 : Int32) (hE : f_R_enter u r x0 = F) : JJ p l e R s m args below meth c 0 0 2 D clA (cW z a) A Q 0 [(0, .ref (a (23 + r))), (1, .int x0)] u [] := by
  have C := B.1
  unfold f_R_enter at hE
  refine j_aload_n C 0 dX2_enter_0 rfl ?_
  refine j_iload_n C 1 dX2_enter_1 rfl ?_
  refine j_put C kf_2 (23 + r) (pl_rg hr) 3 (by decide) lk_2_22 rfl rfl rfl (Nat.le_of_ble_eq_true rfl) (pu_rg_phase hr) dX2_enter_2 ?_
  refine j_aload_n C 0 dX2_enter_5 rfl ?_
  refine j_iconst C 0 dX2_enter_6 ic_0 ?_
  refine j_put C kf_2 (23 + r) (pl_rg hr) 4 (by decide) lk_2_34 rfl rfl rfl (Nat.le_of_ble_eq_true rfl) (pu_rg_age hr) dX2_enter_7 ?_
  refine j_aload_n C 0 dX2_enter_10 rfl ?_
  refine j_iconst C 0 dX2_enter_11 ic_0 ?_
  refine j_put C kf_2 (23 + r) (pl_rg hr) 5 (by decide) lk_2_41 rfl rfl rfl (Nat.le_of_ble_eq_true rfl) (pu_rg_left hr) dX2_enter_12 ?_
  refine j_aload_n C 0 dX2_enter_15 rfl ?_
  refine j_iconst C 0 dX2_enter_16 ic_0 ?_
  refine j_put C kf_2 (23 + r) (pl_rg hr) 6 (by decide) lk_2_44 rfl rfl rfl (Nat.le_of_ble_eq_true rfl) (pu_rg_pressure hr) dX2_enter_17 ?_
  refine j_aload_n C 0 dX2_enter_20 rfl ?_
  refine j_iconst C 0 dX2_enter_21 ic_0 ?_
  refine j_put C kf_2 (23 + r) (pl_rg hr) 8 (by decide) lk_2_28 rfl rfl rfl (Nat.le_of_ble_eq_true rfl) (pu_rg_walkLeft hr) dX2_enter_22 ?_
  refine j_aload_n C 0 dX2_enter_25 rfl ?_
  refine j_iconst C 0 dX2_enter_26 ic_0 ?_
  refine j_put C kf_2 (23 + r) (pl_rg hr) 9 (by decide) lk_2_31 rfl rfl rfl (Nat.le_of_ble_eq_true rfl) (pu_rg_clearingLeft hr) dX2_enter_27 ?_
  exact B.2.2 _ _ _ dX2_enter_30 hE
theorem c_R_enter (l : Launch) (D : va_G) (z : Nat → ClassId) (a : Nat → Nat) (u : St) (r : Nat) (x0 : Int32) (hr : r < 2) : CtV l yX2_enter (.code yX2_enter cX2_enter 2 none :: TT) rm_R_enter D clA (tyl z) (cW z a) [.ref (a (23 + r)), .int x0] u (f_R_enter u r x0) :=
  jk_metV (own := RX2) (by decide) rfl (Nat.le_of_ble_eq_true rfl) (fun _ _ _ _ _ _ _ _ _ _ _ B => w_R_enter_0 B hr x0 rfl)
def rm_R_beginGreen : Room := { frames := 2, cells := 0, slots := 0, locals := 41 }
def f_R_beginGreen (u : St) (r : Nat) (k : Nat) : St := (if (f_M_wouldWalk (up2 (up2 (up2 (f_R_enter u r (1 : Int32)) 30 r ((f_R_enter u r (1 : Int32)) 35 r)) 35 r (-1 : Int32)) 33 r ((up2 (up2 (f_R_enter u r (1 : Int32)) 30 r ((f_R_enter u r (1 : Int32)) 35 r)) 35 r (-1 : Int32)) (20 + k) 1)) k) = (0 : Int32) then (up2 (up2 (up2 (f_R_enter u r (1 : Int32)) 30 r ((f_R_enter u r (1 : Int32)) 35 r)) 35 r (-1 : Int32)) 33 r ((up2 (up2 (f_R_enter u r (1 : Int32)) 30 r ((f_R_enter u r (1 : Int32)) 35 r)) 35 r (-1 : Int32)) (20 + k) 1)) else (up2 (up2 (up2 (up2 (up2 (f_R_enter u r (1 : Int32)) 30 r ((f_R_enter u r (1 : Int32)) 35 r)) 35 r (-1 : Int32)) 33 r ((up2 (up2 (f_R_enter u r (1 : Int32)) 30 r ((f_R_enter u r (1 : Int32)) 35 r)) 35 r (-1 : Int32)) (20 + k) 1)) 36 r ((up2 (up2 (up2 (f_R_enter u r (1 : Int32)) 30 r ((f_R_enter u r (1 : Int32)) 35 r)) 35 r (-1 : Int32)) 33 r ((up2 (up2 (f_R_enter u r (1 : Int32)) 30 r ((f_R_enter u r (1 : Int32)) 35 r)) 35 r (-1 : Int32)) (20 + k) 1)) (20 + k) 5)) 37 r ((up2 (up2 (up2 (up2 (f_R_enter u r (1 : Int32)) 30 r ((f_R_enter u r (1 : Int32)) 35 r)) 35 r (-1 : Int32)) 33 r ((up2 (up2 (f_R_enter u r (1 : Int32)) 30 r ((f_R_enter u r (1 : Int32)) 35 r)) 35 r (-1 : Int32)) (20 + k) 1)) 36 r ((up2 (up2 (up2 (f_R_enter u r (1 : Int32)) 30 r ((f_R_enter u r (1 : Int32)) 35 r)) 35 r (-1 : Int32)) 33 r ((up2 (up2 (f_R_enter u r (1 : Int32)) 30 r ((f_R_enter u r (1 : Int32)) 35 r)) 35 r (-1 : Int32)) (20 + k) 1)) (20 + k) 5)) (20 + k) 6)))
set_option maxRecDepth 20000 in
set_option maxHeartbeats 1000000 in
theorem w_R_beginGreen_0 {F : St} {u : St} (B : jk_BV p l e R s m args below meth c cX2_beginGreen 2 RX2 TT D clA (tyl z) (cW z a) A Q rm_R_beginGreen F) {r : Nat} (hr : r < 2) {k : Nat} (hk : k < 8) (hE : f_R_beginGreen u r k = F) : JJ p l e R s m args below meth c 0 0 2 D clA (cW z a) A Q 0 [(0, .ref (a (23 + r))), (1, .ref (a (7 + k)))] u [] := by
  have C := B.1
  unfold f_R_beginGreen at hE
  refine j_aload_n C 0 dX2_beginGreen_0 rfl ?_
  refine j_iconst C 1 dX2_beginGreen_1 ic_1 ?_
  refine j_cVV C B.2.1 (c_R_enter l D z a u r (1 : Int32) hr) gv_2_47 dd_R_enter ⟨⟨rfl, rfl⟩, Nat.le_of_ble_eq_true rfl, Nat.le_of_ble_eq_true rfl⟩ (23 + r) 2 (pl_rg hr) rfl rfl rfl rfl (Nat.le_of_ble_eq_true rfl) dX2_beginGreen_2 ?_
  refine j_aload_n C 0 dX2_beginGreen_5 rfl ?_
  refine j_aload_n C 0 dX2_beginGreen_6 rfl ?_
  refine j_get C kf_2 (23 + r) (pl_rg hr) 7 (by decide) lk_2_25 rfl dX2_beginGreen_7 ?_
  refine j_put C kf_2 (23 + r) (pl_rg hr) 2 (by decide) lk_2_19 rfl rfl rfl (Nat.le_of_ble_eq_true rfl) (pu_rg_movement hr) dX2_beginGreen_10 ?_
  refine j_aload_n C 0 dX2_beginGreen_13 rfl ?_
  refine j_iconst C (-1) dX2_beginGreen_14 ic_m1 ?_
  refine j_put C kf_2 (23 + r) (pl_rg hr) 7 (by decide) lk_2_25 rfl rfl rfl (Nat.le_of_ble_eq_true rfl) (pu_rg_next hr) dX2_beginGreen_15 ?_
  refine j_aload_n C 0 dX2_beginGreen_18 rfl ?_
  refine j_aload_n C 1 dX2_beginGreen_19 rfl ?_
  refine j_get C kf_1 (7 + k) (pl_mv hk) 0 (by decide) lk_2_51 rfl dX2_beginGreen_20 ?_
  refine j_iconst C 1 dX2_beginGreen_23 ic_1 ?_
  refine j_iald C (15 + k) 0 (pl_times hk) rfl 1 ix_1 (by decide) (by decide) dX2_beginGreen_24 ?_
  refine j_put C kf_2 (23 + r) (pl_rg hr) 5 (by decide) lk_2_41 rfl rfl rfl (Nat.le_of_ble_eq_true rfl) (pu_rg_left hr) dX2_beginGreen_25 ?_
  refine j_aload_n C 1 dX2_beginGreen_28 rfl ?_
  refine j_cIV C B.2.1 (c_M_wouldWalk l D z a (up2 (up2 (up2 (f_R_enter u r (1 : Int32)) 30 r ((f_R_enter u r (1 : Int32)) 35 r)) 35 r (-1 : Int32)) 33 r ((up2 (up2 (f_R_enter u r (1 : Int32)) 30 r ((f_R_enter u r (1 : Int32)) 35 r)) 35 r (-1 : Int32)) (20 + k) 1)) k hk) gv_2_57 dd_M_wouldWalk ⟨⟨rfl, rfl⟩, Nat.le_of_ble_eq_true rfl, Nat.le_of_ble_eq_true rfl⟩ (7 + k) 1 (pl_mv hk) rfl rfl rfl rfl (Nat.le_of_ble_eq_true rfl) dX2_beginGreen_29 ?_
  refine j_if_eq C 56 dX2_beginGreen_32 (by decide) (fun c1 => ?_) (fun c1 => ?_)
  · have hE := (if_pos c1).symm.trans hE
    exact B.2.2 _ _ _ dX2_beginGreen_56 hE
  · have hE := (if_neg c1).symm.trans hE
    refine j_aload_n C 0 dX2_beginGreen_35 rfl ?_
    refine j_aload_n C 1 dX2_beginGreen_36 rfl ?_
    refine j_get C kf_1 (7 + k) (pl_mv hk) 0 (by decide) lk_2_51 rfl dX2_beginGreen_37 ?_
    refine j_iconst C 5 dX2_beginGreen_40 ic_5 ?_
    refine j_iald C (15 + k) 0 (pl_times hk) rfl 5 ix_5 (by decide) (by decide) dX2_beginGreen_41 ?_
    refine j_put C kf_2 (23 + r) (pl_rg hr) 8 (by decide) lk_2_28 rfl rfl rfl (Nat.le_of_ble_eq_true rfl) (pu_rg_walkLeft hr) dX2_beginGreen_42 ?_
    refine j_aload_n C 0 dX2_beginGreen_45 rfl ?_
    refine j_aload_n C 1 dX2_beginGreen_46 rfl ?_
    refine j_get C kf_1 (7 + k) (pl_mv hk) 0 (by decide) lk_2_51 rfl dX2_beginGreen_47 ?_
    refine j_bipush C 6 dX2_beginGreen_50 bp_6 ?_
    refine j_iald C (15 + k) 0 (pl_times hk) rfl 6 ix_6 (by decide) (by decide) dX2_beginGreen_52 ?_
    refine j_put C kf_2 (23 + r) (pl_rg hr) 9 (by decide) lk_2_31 rfl rfl rfl (Nat.le_of_ble_eq_true rfl) (pu_rg_clearingLeft hr) dX2_beginGreen_53 ?_
    exact B.2.2 _ _ _ dX2_beginGreen_56 hE
theorem c_R_beginGreen (l : Launch) (D : va_G) (z : Nat → ClassId) (a : Nat → Nat) (u : St) (r : Nat) (k : Nat) (hr : r < 2) (hk : k < 8) : CtV l yX2_beginGreen (.code yX2_beginGreen cX2_beginGreen 2 none :: TT) rm_R_beginGreen D clA (tyl z) (cW z a) [.ref (a (23 + r)), .ref (a (7 + k))] u (f_R_beginGreen u r k) :=
  jk_metV (own := RX2) (by decide) rfl (Nat.le_of_ble_eq_true rfl) (fun _ _ _ _ _ _ _ _ _ _ _ B => w_R_beginGreen_0 B hr hk rfl)
def rm_R_advanceGreen : Room := { frames := 1, cells := 0, slots := 0, locals := 21 }
def f_R_advanceGreen (u : St) (r : Nat) (k : Nat) (b0 : Int32) : St := (if ((up2 u 32 r ((u 32 r) + (1 : Int32))) 11 k) = (0 : Int32) then (if (f_M_has (up2 u 32 r ((u 32 r) + (1 : Int32))) k (8 : Int32)) = (0 : Int32) then (if b0 = (0 : Int32) then (if ((up2 (up2 (up2 u 32 r ((u 32 r) + (1 : Int32))) 33 r (if (((up2 u 32 r ((u 32 r) + (1 : Int32))) 33 r) - (1 : Int32)) < (0 : Int32) then (0 : Int32) else (((up2 u 32 r ((u 32 r) + (1 : Int32))) 33 r) - (1 : Int32)))) 34 r (0 : Int32)) 36 r) ≤ (0 : Int32) then (if ((up2 (up2 (up2 u 32 r ((u 32 r) + (1 : Int32))) 33 r (if (((up2 u 32 r ((u 32 r) + (1 : Int32))) 33 r) - (1 : Int32)) < (0 : Int32) then (0 : Int32) else (((up2 u 32 r ((u 32 r) + (1 : Int32))) 33 r) - (1 : Int32)))) 34 r (0 : Int32)) 37 r) ≤ (0 : Int32) then (up2 (up2 (up2 u 32 r ((u 32 r) + (1 : Int32))) 33 r (if (((up2 u 32 r ((u 32 r) + (1 : Int32))) 33 r) - (1 : Int32)) < (0 : Int32) then (0 : Int32) else (((up2 u 32 r ((u 32 r) + (1 : Int32))) 33 r) - (1 : Int32)))) 34 r (0 : Int32)) else (up2 (up2 (up2 (up2 u 32 r ((u 32 r) + (1 : Int32))) 33 r (if (((up2 u 32 r ((u 32 r) + (1 : Int32))) 33 r) - (1 : Int32)) < (0 : Int32) then (0 : Int32) else (((up2 u 32 r ((u 32 r) + (1 : Int32))) 33 r) - (1 : Int32)))) 34 r (0 : Int32)) 37 r (((up2 (up2 (up2 u 32 r ((u 32 r) + (1 : Int32))) 33 r (if (((up2 u 32 r ((u 32 r) + (1 : Int32))) 33 r) - (1 : Int32)) < (0 : Int32) then (0 : Int32) else (((up2 u 32 r ((u 32 r) + (1 : Int32))) 33 r) - (1 : Int32)))) 34 r (0 : Int32)) 37 r) - (1 : Int32)))) else (up2 (up2 (up2 (up2 u 32 r ((u 32 r) + (1 : Int32))) 33 r (if (((up2 u 32 r ((u 32 r) + (1 : Int32))) 33 r) - (1 : Int32)) < (0 : Int32) then (0 : Int32) else (((up2 u 32 r ((u 32 r) + (1 : Int32))) 33 r) - (1 : Int32)))) 34 r (0 : Int32)) 36 r (((up2 (up2 (up2 u 32 r ((u 32 r) + (1 : Int32))) 33 r (if (((up2 u 32 r ((u 32 r) + (1 : Int32))) 33 r) - (1 : Int32)) < (0 : Int32) then (0 : Int32) else (((up2 u 32 r ((u 32 r) + (1 : Int32))) 33 r) - (1 : Int32)))) 34 r (0 : Int32)) 36 r) - (1 : Int32)))) else (if ((up2 (up2 (up2 u 32 r ((u 32 r) + (1 : Int32))) 33 r (if (((up2 u 32 r ((u 32 r) + (1 : Int32))) 33 r) - (1 : Int32)) < (0 : Int32) then (0 : Int32) else (((up2 u 32 r ((u 32 r) + (1 : Int32))) 33 r) - (1 : Int32)))) 34 r (((up2 (up2 u 32 r ((u 32 r) + (1 : Int32))) 33 r (if (((up2 u 32 r ((u 32 r) + (1 : Int32))) 33 r) - (1 : Int32)) < (0 : Int32) then (0 : Int32) else (((up2 u 32 r ((u 32 r) + (1 : Int32))) 33 r) - (1 : Int32)))) 34 r) + (1 : Int32))) 36 r) ≤ (0 : Int32) then (if ((up2 (up2 (up2 u 32 r ((u 32 r) + (1 : Int32))) 33 r (if (((up2 u 32 r ((u 32 r) + (1 : Int32))) 33 r) - (1 : Int32)) < (0 : Int32) then (0 : Int32) else (((up2 u 32 r ((u 32 r) + (1 : Int32))) 33 r) - (1 : Int32)))) 34 r (((up2 (up2 u 32 r ((u 32 r) + (1 : Int32))) 33 r (if (((up2 u 32 r ((u 32 r) + (1 : Int32))) 33 r) - (1 : Int32)) < (0 : Int32) then (0 : Int32) else (((up2 u 32 r ((u 32 r) + (1 : Int32))) 33 r) - (1 : Int32)))) 34 r) + (1 : Int32))) 37 r) ≤ (0 : Int32) then (up2 (up2 (up2 u 32 r ((u 32 r) + (1 : Int32))) 33 r (if (((up2 u 32 r ((u 32 r) + (1 : Int32))) 33 r) - (1 : Int32)) < (0 : Int32) then (0 : Int32) else (((up2 u 32 r ((u 32 r) + (1 : Int32))) 33 r) - (1 : Int32)))) 34 r (((up2 (up2 u 32 r ((u 32 r) + (1 : Int32))) 33 r (if (((up2 u 32 r ((u 32 r) + (1 : Int32))) 33 r) - (1 : Int32)) < (0 : Int32) then (0 : Int32) else (((up2 u 32 r ((u 32 r) + (1 : Int32))) 33 r) - (1 : Int32)))) 34 r) + (1 : Int32))) else (up2 (up2 (up2 (up2 u 32 r ((u 32 r) + (1 : Int32))) 33 r (if (((up2 u 32 r ((u 32 r) + (1 : Int32))) 33 r) - (1 : Int32)) < (0 : Int32) then (0 : Int32) else (((up2 u 32 r ((u 32 r) + (1 : Int32))) 33 r) - (1 : Int32)))) 34 r (((up2 (up2 u 32 r ((u 32 r) + (1 : Int32))) 33 r (if (((up2 u 32 r ((u 32 r) + (1 : Int32))) 33 r) - (1 : Int32)) < (0 : Int32) then (0 : Int32) else (((up2 u 32 r ((u 32 r) + (1 : Int32))) 33 r) - (1 : Int32)))) 34 r) + (1 : Int32))) 37 r (((up2 (up2 (up2 u 32 r ((u 32 r) + (1 : Int32))) 33 r (if (((up2 u 32 r ((u 32 r) + (1 : Int32))) 33 r) - (1 : Int32)) < (0 : Int32) then (0 : Int32) else (((up2 u 32 r ((u 32 r) + (1 : Int32))) 33 r) - (1 : Int32)))) 34 r (((up2 (up2 u 32 r ((u 32 r) + (1 : Int32))) 33 r (if (((up2 u 32 r ((u 32 r) + (1 : Int32))) 33 r) - (1 : Int32)) < (0 : Int32) then (0 : Int32) else (((up2 u 32 r ((u 32 r) + (1 : Int32))) 33 r) - (1 : Int32)))) 34 r) + (1 : Int32))) 37 r) - (1 : Int32)))) else (up2 (up2 (up2 (up2 u 32 r ((u 32 r) + (1 : Int32))) 33 r (if (((up2 u 32 r ((u 32 r) + (1 : Int32))) 33 r) - (1 : Int32)) < (0 : Int32) then (0 : Int32) else (((up2 u 32 r ((u 32 r) + (1 : Int32))) 33 r) - (1 : Int32)))) 34 r (((up2 (up2 u 32 r ((u 32 r) + (1 : Int32))) 33 r (if (((up2 u 32 r ((u 32 r) + (1 : Int32))) 33 r) - (1 : Int32)) < (0 : Int32) then (0 : Int32) else (((up2 u 32 r ((u 32 r) + (1 : Int32))) 33 r) - (1 : Int32)))) 34 r) + (1 : Int32))) 36 r (((up2 (up2 (up2 u 32 r ((u 32 r) + (1 : Int32))) 33 r (if (((up2 u 32 r ((u 32 r) + (1 : Int32))) 33 r) - (1 : Int32)) < (0 : Int32) then (0 : Int32) else (((up2 u 32 r ((u 32 r) + (1 : Int32))) 33 r) - (1 : Int32)))) 34 r (((up2 (up2 u 32 r ((u 32 r) + (1 : Int32))) 33 r (if (((up2 u 32 r ((u 32 r) + (1 : Int32))) 33 r) - (1 : Int32)) < (0 : Int32) then (0 : Int32) else (((up2 u 32 r ((u 32 r) + (1 : Int32))) 33 r) - (1 : Int32)))) 34 r) + (1 : Int32))) 36 r) - (1 : Int32))))) else (if b0 = (0 : Int32) then (if ((up2 (up2 (up2 u 32 r ((u 32 r) + (1 : Int32))) 33 r ((up2 u 32 r ((u 32 r) + (1 : Int32))) (20 + k) 1)) 34 r (0 : Int32)) 36 r) ≤ (0 : Int32) then (if ((up2 (up2 (up2 u 32 r ((u 32 r) + (1 : Int32))) 33 r ((up2 u 32 r ((u 32 r) + (1 : Int32))) (20 + k) 1)) 34 r (0 : Int32)) 37 r) ≤ (0 : Int32) then (up2 (up2 (up2 u 32 r ((u 32 r) + (1 : Int32))) 33 r ((up2 u 32 r ((u 32 r) + (1 : Int32))) (20 + k) 1)) 34 r (0 : Int32)) else (up2 (up2 (up2 (up2 u 32 r ((u 32 r) + (1 : Int32))) 33 r ((up2 u 32 r ((u 32 r) + (1 : Int32))) (20 + k) 1)) 34 r (0 : Int32)) 37 r (((up2 (up2 (up2 u 32 r ((u 32 r) + (1 : Int32))) 33 r ((up2 u 32 r ((u 32 r) + (1 : Int32))) (20 + k) 1)) 34 r (0 : Int32)) 37 r) - (1 : Int32)))) else (up2 (up2 (up2 (up2 u 32 r ((u 32 r) + (1 : Int32))) 33 r ((up2 u 32 r ((u 32 r) + (1 : Int32))) (20 + k) 1)) 34 r (0 : Int32)) 36 r (((up2 (up2 (up2 u 32 r ((u 32 r) + (1 : Int32))) 33 r ((up2 u 32 r ((u 32 r) + (1 : Int32))) (20 + k) 1)) 34 r (0 : Int32)) 36 r) - (1 : Int32)))) else (if ((up2 (up2 (up2 u 32 r ((u 32 r) + (1 : Int32))) 33 r ((up2 u 32 r ((u 32 r) + (1 : Int32))) (20 + k) 1)) 34 r (((up2 (up2 u 32 r ((u 32 r) + (1 : Int32))) 33 r ((up2 u 32 r ((u 32 r) + (1 : Int32))) (20 + k) 1)) 34 r) + (1 : Int32))) 36 r) ≤ (0 : Int32) then (if ((up2 (up2 (up2 u 32 r ((u 32 r) + (1 : Int32))) 33 r ((up2 u 32 r ((u 32 r) + (1 : Int32))) (20 + k) 1)) 34 r (((up2 (up2 u 32 r ((u 32 r) + (1 : Int32))) 33 r ((up2 u 32 r ((u 32 r) + (1 : Int32))) (20 + k) 1)) 34 r) + (1 : Int32))) 37 r) ≤ (0 : Int32) then (up2 (up2 (up2 u 32 r ((u 32 r) + (1 : Int32))) 33 r ((up2 u 32 r ((u 32 r) + (1 : Int32))) (20 + k) 1)) 34 r (((up2 (up2 u 32 r ((u 32 r) + (1 : Int32))) 33 r ((up2 u 32 r ((u 32 r) + (1 : Int32))) (20 + k) 1)) 34 r) + (1 : Int32))) else (up2 (up2 (up2 (up2 u 32 r ((u 32 r) + (1 : Int32))) 33 r ((up2 u 32 r ((u 32 r) + (1 : Int32))) (20 + k) 1)) 34 r (((up2 (up2 u 32 r ((u 32 r) + (1 : Int32))) 33 r ((up2 u 32 r ((u 32 r) + (1 : Int32))) (20 + k) 1)) 34 r) + (1 : Int32))) 37 r (((up2 (up2 (up2 u 32 r ((u 32 r) + (1 : Int32))) 33 r ((up2 u 32 r ((u 32 r) + (1 : Int32))) (20 + k) 1)) 34 r (((up2 (up2 u 32 r ((u 32 r) + (1 : Int32))) 33 r ((up2 u 32 r ((u 32 r) + (1 : Int32))) (20 + k) 1)) 34 r) + (1 : Int32))) 37 r) - (1 : Int32)))) else (up2 (up2 (up2 (up2 u 32 r ((u 32 r) + (1 : Int32))) 33 r ((up2 u 32 r ((u 32 r) + (1 : Int32))) (20 + k) 1)) 34 r (((up2 (up2 u 32 r ((u 32 r) + (1 : Int32))) 33 r ((up2 u 32 r ((u 32 r) + (1 : Int32))) (20 + k) 1)) 34 r) + (1 : Int32))) 36 r (((up2 (up2 (up2 u 32 r ((u 32 r) + (1 : Int32))) 33 r ((up2 u 32 r ((u 32 r) + (1 : Int32))) (20 + k) 1)) 34 r (((up2 (up2 u 32 r ((u 32 r) + (1 : Int32))) 33 r ((up2 u 32 r ((u 32 r) + (1 : Int32))) (20 + k) 1)) 34 r) + (1 : Int32))) 36 r) - (1 : Int32)))))) else (if b0 = (0 : Int32) then (if ((up2 (up2 (up2 u 32 r ((u 32 r) + (1 : Int32))) 33 r ((up2 u 32 r ((u 32 r) + (1 : Int32))) (20 + k) 1)) 34 r (0 : Int32)) 36 r) ≤ (0 : Int32) then (if ((up2 (up2 (up2 u 32 r ((u 32 r) + (1 : Int32))) 33 r ((up2 u 32 r ((u 32 r) + (1 : Int32))) (20 + k) 1)) 34 r (0 : Int32)) 37 r) ≤ (0 : Int32) then (up2 (up2 (up2 u 32 r ((u 32 r) + (1 : Int32))) 33 r ((up2 u 32 r ((u 32 r) + (1 : Int32))) (20 + k) 1)) 34 r (0 : Int32)) else (up2 (up2 (up2 (up2 u 32 r ((u 32 r) + (1 : Int32))) 33 r ((up2 u 32 r ((u 32 r) + (1 : Int32))) (20 + k) 1)) 34 r (0 : Int32)) 37 r (((up2 (up2 (up2 u 32 r ((u 32 r) + (1 : Int32))) 33 r ((up2 u 32 r ((u 32 r) + (1 : Int32))) (20 + k) 1)) 34 r (0 : Int32)) 37 r) - (1 : Int32)))) else (up2 (up2 (up2 (up2 u 32 r ((u 32 r) + (1 : Int32))) 33 r ((up2 u 32 r ((u 32 r) + (1 : Int32))) (20 + k) 1)) 34 r (0 : Int32)) 36 r (((up2 (up2 (up2 u 32 r ((u 32 r) + (1 : Int32))) 33 r ((up2 u 32 r ((u 32 r) + (1 : Int32))) (20 + k) 1)) 34 r (0 : Int32)) 36 r) - (1 : Int32)))) else (if ((up2 (up2 (up2 u 32 r ((u 32 r) + (1 : Int32))) 33 r ((up2 u 32 r ((u 32 r) + (1 : Int32))) (20 + k) 1)) 34 r (((up2 (up2 u 32 r ((u 32 r) + (1 : Int32))) 33 r ((up2 u 32 r ((u 32 r) + (1 : Int32))) (20 + k) 1)) 34 r) + (1 : Int32))) 36 r) ≤ (0 : Int32) then (if ((up2 (up2 (up2 u 32 r ((u 32 r) + (1 : Int32))) 33 r ((up2 u 32 r ((u 32 r) + (1 : Int32))) (20 + k) 1)) 34 r (((up2 (up2 u 32 r ((u 32 r) + (1 : Int32))) 33 r ((up2 u 32 r ((u 32 r) + (1 : Int32))) (20 + k) 1)) 34 r) + (1 : Int32))) 37 r) ≤ (0 : Int32) then (up2 (up2 (up2 u 32 r ((u 32 r) + (1 : Int32))) 33 r ((up2 u 32 r ((u 32 r) + (1 : Int32))) (20 + k) 1)) 34 r (((up2 (up2 u 32 r ((u 32 r) + (1 : Int32))) 33 r ((up2 u 32 r ((u 32 r) + (1 : Int32))) (20 + k) 1)) 34 r) + (1 : Int32))) else (up2 (up2 (up2 (up2 u 32 r ((u 32 r) + (1 : Int32))) 33 r ((up2 u 32 r ((u 32 r) + (1 : Int32))) (20 + k) 1)) 34 r (((up2 (up2 u 32 r ((u 32 r) + (1 : Int32))) 33 r ((up2 u 32 r ((u 32 r) + (1 : Int32))) (20 + k) 1)) 34 r) + (1 : Int32))) 37 r (((up2 (up2 (up2 u 32 r ((u 32 r) + (1 : Int32))) 33 r ((up2 u 32 r ((u 32 r) + (1 : Int32))) (20 + k) 1)) 34 r (((up2 (up2 u 32 r ((u 32 r) + (1 : Int32))) 33 r ((up2 u 32 r ((u 32 r) + (1 : Int32))) (20 + k) 1)) 34 r) + (1 : Int32))) 37 r) - (1 : Int32)))) else (up2 (up2 (up2 (up2 u 32 r ((u 32 r) + (1 : Int32))) 33 r ((up2 u 32 r ((u 32 r) + (1 : Int32))) (20 + k) 1)) 34 r (((up2 (up2 u 32 r ((u 32 r) + (1 : Int32))) 33 r ((up2 u 32 r ((u 32 r) + (1 : Int32))) (20 + k) 1)) 34 r) + (1 : Int32))) 36 r (((up2 (up2 (up2 u 32 r ((u 32 r) + (1 : Int32))) 33 r ((up2 u 32 r ((u 32 r) + (1 : Int32))) (20 + k) 1)) 34 r (((up2 (up2 u 32 r ((u 32 r) + (1 : Int32))) 33 r ((up2 u 32 r ((u 32 r) + (1 : Int32))) (20 + k) 1)) 34 r) + (1 : Int32))) 36 r) - (1 : Int32))))))
set_option maxRecDepth 20000 in
set_option maxHeartbeats 1000000 in
theorem w_R_advanceGreen_0 {F : St} {u : St} (B : jk_BV p l e R s m args below meth c cX2_advanceGreen 3 RX2 TT D clA (tyl z) (cW z a) A Q rm_R_advanceGreen F) {r : Nat} (hr : r < 2) {k : Nat} (hk : k < 8) (b0 : Int32) (hE : f_R_advanceGreen u r k b0 = F) : JJ p l e R s m args below meth c 0 0 3 D clA (cW z a) A Q 0 [(0, .ref (a (23 + r))), (1, .ref (a (7 + k))), (2, .int b0)] u [] := by
  have C := B.1
  unfold f_R_advanceGreen at hE
  refine j_aload_n C 0 dX2_advanceGreen_0 rfl ?_
  refine j_dup C dX2_advanceGreen_1 rfl ?_
  refine j_get C kf_2 (23 + r) (pl_rg hr) 4 (by decide) lk_2_34 rfl dX2_advanceGreen_2 ?_
  refine j_iconst C 1 dX2_advanceGreen_5 ic_1 ?_
  refine j_iadd C dX2_advanceGreen_6 ?_
  refine j_put C kf_2 (23 + r) (pl_rg hr) 4 (by decide) lk_2_34 rfl rfl rfl (Nat.le_of_ble_eq_true rfl) (pu_rg_age hr) dX2_advanceGreen_7 ?_
  refine j_aload_n C 1 dX2_advanceGreen_10 rfl ?_
  refine j_get C kf_1 (7 + k) (pl_mv hk) 2 (by decide) lk_2_61 rfl dX2_advanceGreen_11 ?_
  refine j_if_ne C 26 dX2_advanceGreen_14 (by decide) (fun c1 => ?_) (fun c1 => ?_)
  · have hE := (if_neg c1).symm.trans hE
    refine j_aload_n C 0 dX2_advanceGreen_26 rfl ?_
    refine j_aload_n C 1 dX2_advanceGreen_27 rfl ?_
    refine j_get C kf_1 (7 + k) (pl_mv hk) 0 (by decide) lk_2_51 rfl dX2_advanceGreen_28 ?_
    refine j_iconst C 1 dX2_advanceGreen_31 ic_1 ?_
    refine j_iald C (15 + k) 0 (pl_times hk) rfl 1 ix_1 (by decide) (by decide) dX2_advanceGreen_32 ?_
    refine j_put C kf_2 (23 + r) (pl_rg hr) 5 (by decide) lk_2_41 rfl rfl rfl (Nat.le_of_ble_eq_true rfl) (pu_rg_left hr) dX2_advanceGreen_33 ?_
    refine j_goto C 53 dX2_advanceGreen_36 (by decide) ?_
    refine j_aload_n C 0 dX2_advanceGreen_53 rfl ?_
    refine j_iload_n C 2 dX2_advanceGreen_54 rfl ?_
    refine j_if_eq C 67 dX2_advanceGreen_55 (by decide) (fun c2 => ?_) (fun c2 => ?_)
    · have hE := (if_pos c2).symm.trans hE
      refine j_iconst C 0 dX2_advanceGreen_67 ic_0 ?_
      refine j_put C kf_2 (23 + r) (pl_rg hr) 6 (by decide) lk_2_44 rfl rfl rfl (Nat.le_of_ble_eq_true rfl) (pu_rg_pressure hr) dX2_advanceGreen_68 ?_
      refine j_aload_n C 0 dX2_advanceGreen_71 rfl ?_
      refine j_get C kf_2 (23 + r) (pl_rg hr) 8 (by decide) lk_2_28 rfl dX2_advanceGreen_72 ?_
      refine j_if_le C 91 dX2_advanceGreen_75 (by decide) (fun c3 => ?_) (fun c3 => ?_)
      · have hE := (if_pos c3).symm.trans hE
        refine j_aload_n C 0 dX2_advanceGreen_91 rfl ?_
        refine j_get C kf_2 (23 + r) (pl_rg hr) 9 (by decide) lk_2_31 rfl dX2_advanceGreen_92 ?_
        refine j_if_le C 108 dX2_advanceGreen_95 (by decide) (fun c4 => ?_) (fun c4 => ?_)
        · have hE := (if_pos c4).symm.trans hE
          exact B.2.2 _ _ _ dX2_advanceGreen_108 hE
        · have hE := (if_neg c4).symm.trans hE
          refine j_aload_n C 0 dX2_advanceGreen_98 rfl ?_
          refine j_dup C dX2_advanceGreen_99 rfl ?_
          refine j_get C kf_2 (23 + r) (pl_rg hr) 9 (by decide) lk_2_31 rfl dX2_advanceGreen_100 ?_
          refine j_iconst C 1 dX2_advanceGreen_103 ic_1 ?_
          refine j_isub C dX2_advanceGreen_104 ?_
          refine j_put C kf_2 (23 + r) (pl_rg hr) 9 (by decide) lk_2_31 rfl rfl rfl (Nat.le_of_ble_eq_true rfl) (pu_rg_clearingLeft hr) dX2_advanceGreen_105 ?_
          exact B.2.2 _ _ _ dX2_advanceGreen_108 hE
      · have hE := (if_neg c3).symm.trans hE
        refine j_aload_n C 0 dX2_advanceGreen_78 rfl ?_
        refine j_dup C dX2_advanceGreen_79 rfl ?_
        refine j_get C kf_2 (23 + r) (pl_rg hr) 8 (by decide) lk_2_28 rfl dX2_advanceGreen_80 ?_
        refine j_iconst C 1 dX2_advanceGreen_83 ic_1 ?_
        refine j_isub C dX2_advanceGreen_84 ?_
        refine j_put C kf_2 (23 + r) (pl_rg hr) 8 (by decide) lk_2_28 rfl rfl rfl (Nat.le_of_ble_eq_true rfl) (pu_rg_walkLeft hr) dX2_advanceGreen_85 ?_
        refine j_goto C 108 dX2_advanceGreen_88 (by decide) ?_
        exact B.2.2 _ _ _ dX2_advanceGreen_108 hE
    · have hE := (if_neg c2).symm.trans hE
      refine j_aload_n C 0 dX2_advanceGreen_58 rfl ?_
      refine j_get C kf_2 (23 + r) (pl_rg hr) 6 (by decide) lk_2_44 rfl dX2_advanceGreen_59 ?_
      refine j_iconst C 1 dX2_advanceGreen_62 ic_1 ?_
      refine j_iadd C dX2_advanceGreen_63 ?_
      refine j_goto C 68 dX2_advanceGreen_64 (by decide) ?_
      refine j_put C kf_2 (23 + r) (pl_rg hr) 6 (by decide) lk_2_44 rfl rfl rfl (Nat.le_of_ble_eq_true rfl) (pu_rg_pressure hr) dX2_advanceGreen_68 ?_
      refine j_aload_n C 0 dX2_advanceGreen_71 rfl ?_
      refine j_get C kf_2 (23 + r) (pl_rg hr) 8 (by decide) lk_2_28 rfl dX2_advanceGreen_72 ?_
      refine j_if_le C 91 dX2_advanceGreen_75 (by decide) (fun c5 => ?_) (fun c5 => ?_)
      · have hE := (if_pos c5).symm.trans hE
        refine j_aload_n C 0 dX2_advanceGreen_91 rfl ?_
        refine j_get C kf_2 (23 + r) (pl_rg hr) 9 (by decide) lk_2_31 rfl dX2_advanceGreen_92 ?_
        refine j_if_le C 108 dX2_advanceGreen_95 (by decide) (fun c6 => ?_) (fun c6 => ?_)
        · have hE := (if_pos c6).symm.trans hE
          exact B.2.2 _ _ _ dX2_advanceGreen_108 hE
        · have hE := (if_neg c6).symm.trans hE
          refine j_aload_n C 0 dX2_advanceGreen_98 rfl ?_
          refine j_dup C dX2_advanceGreen_99 rfl ?_
          refine j_get C kf_2 (23 + r) (pl_rg hr) 9 (by decide) lk_2_31 rfl dX2_advanceGreen_100 ?_
          refine j_iconst C 1 dX2_advanceGreen_103 ic_1 ?_
          refine j_isub C dX2_advanceGreen_104 ?_
          refine j_put C kf_2 (23 + r) (pl_rg hr) 9 (by decide) lk_2_31 rfl rfl rfl (Nat.le_of_ble_eq_true rfl) (pu_rg_clearingLeft hr) dX2_advanceGreen_105 ?_
          exact B.2.2 _ _ _ dX2_advanceGreen_108 hE
      · have hE := (if_neg c5).symm.trans hE
        refine j_aload_n C 0 dX2_advanceGreen_78 rfl ?_
        refine j_dup C dX2_advanceGreen_79 rfl ?_
        refine j_get C kf_2 (23 + r) (pl_rg hr) 8 (by decide) lk_2_28 rfl dX2_advanceGreen_80 ?_
        refine j_iconst C 1 dX2_advanceGreen_83 ic_1 ?_
        refine j_isub C dX2_advanceGreen_84 ?_
        refine j_put C kf_2 (23 + r) (pl_rg hr) 8 (by decide) lk_2_28 rfl rfl rfl (Nat.le_of_ble_eq_true rfl) (pu_rg_walkLeft hr) dX2_advanceGreen_85 ?_
        refine j_goto C 108 dX2_advanceGreen_88 (by decide) ?_
        exact B.2.2 _ _ _ dX2_advanceGreen_108 hE
  · have hE := (if_pos c1).symm.trans hE
    refine j_aload_n C 1 dX2_advanceGreen_17 rfl ?_
    refine j_bipush C 8 dX2_advanceGreen_18 bp_8 ?_
    refine j_cIV C B.2.1 (c_M_has l D z a (up2 u 32 r ((u 32 r) + (1 : Int32))) k (8 : Int32) hk) gv_2_65 dd_M_has ⟨⟨rfl, rfl⟩, Nat.le_of_ble_eq_true rfl, Nat.le_of_ble_eq_true rfl⟩ (7 + k) 1 (pl_mv hk) rfl rfl rfl rfl (Nat.le_of_ble_eq_true rfl) dX2_advanceGreen_20 ?_
    refine j_if_eq C 39 dX2_advanceGreen_23 (by decide) (fun c7 => ?_) (fun c7 => ?_)
    · have hE := (if_pos c7).symm.trans hE
      refine j_aload_n C 0 dX2_advanceGreen_39 rfl ?_
      refine j_aload_n C 0 dX2_advanceGreen_40 rfl ?_
      refine j_get C kf_2 (23 + r) (pl_rg hr) 5 (by decide) lk_2_41 rfl dX2_advanceGreen_41 ?_
      refine j_iconst C 1 dX2_advanceGreen_44 ic_1 ?_
      refine j_isub C dX2_advanceGreen_45 ?_
      refine j_iconst C 0 dX2_advanceGreen_46 ic_0 ?_
      refine j_max C B.2.1 (Nat.le_of_ble_eq_true rfl) (Nat.le_of_ble_eq_true rfl) mx_2_69 mx_code dX2_advanceGreen_47 ?_
      refine j_put C kf_2 (23 + r) (pl_rg hr) 5 (by decide) lk_2_41 rfl rfl rfl (Nat.le_of_ble_eq_true rfl) (pu_rg_left hr) dX2_advanceGreen_50 ?_
      refine j_aload_n C 0 dX2_advanceGreen_53 rfl ?_
      refine j_iload_n C 2 dX2_advanceGreen_54 rfl ?_
      refine j_if_eq C 67 dX2_advanceGreen_55 (by decide) (fun c8 => ?_) (fun c8 => ?_)
      · have hE := (if_pos c8).symm.trans hE
        refine j_iconst C 0 dX2_advanceGreen_67 ic_0 ?_
        refine j_put C kf_2 (23 + r) (pl_rg hr) 6 (by decide) lk_2_44 rfl rfl rfl (Nat.le_of_ble_eq_true rfl) (pu_rg_pressure hr) dX2_advanceGreen_68 ?_
        refine j_aload_n C 0 dX2_advanceGreen_71 rfl ?_
        refine j_get C kf_2 (23 + r) (pl_rg hr) 8 (by decide) lk_2_28 rfl dX2_advanceGreen_72 ?_
        refine j_if_le C 91 dX2_advanceGreen_75 (by decide) (fun c9 => ?_) (fun c9 => ?_)
        · have hE := (if_pos c9).symm.trans hE
          refine j_aload_n C 0 dX2_advanceGreen_91 rfl ?_
          refine j_get C kf_2 (23 + r) (pl_rg hr) 9 (by decide) lk_2_31 rfl dX2_advanceGreen_92 ?_
          refine j_if_le C 108 dX2_advanceGreen_95 (by decide) (fun c10 => ?_) (fun c10 => ?_)
          · have hE := (if_pos c10).symm.trans hE
            exact B.2.2 _ _ _ dX2_advanceGreen_108 hE
          · have hE := (if_neg c10).symm.trans hE
            refine j_aload_n C 0 dX2_advanceGreen_98 rfl ?_
            refine j_dup C dX2_advanceGreen_99 rfl ?_
            refine j_get C kf_2 (23 + r) (pl_rg hr) 9 (by decide) lk_2_31 rfl dX2_advanceGreen_100 ?_
            refine j_iconst C 1 dX2_advanceGreen_103 ic_1 ?_
            refine j_isub C dX2_advanceGreen_104 ?_
            refine j_put C kf_2 (23 + r) (pl_rg hr) 9 (by decide) lk_2_31 rfl rfl rfl (Nat.le_of_ble_eq_true rfl) (pu_rg_clearingLeft hr) dX2_advanceGreen_105 ?_
            exact B.2.2 _ _ _ dX2_advanceGreen_108 hE
        · have hE := (if_neg c9).symm.trans hE
          refine j_aload_n C 0 dX2_advanceGreen_78 rfl ?_
          refine j_dup C dX2_advanceGreen_79 rfl ?_
          refine j_get C kf_2 (23 + r) (pl_rg hr) 8 (by decide) lk_2_28 rfl dX2_advanceGreen_80 ?_
          refine j_iconst C 1 dX2_advanceGreen_83 ic_1 ?_
          refine j_isub C dX2_advanceGreen_84 ?_
          refine j_put C kf_2 (23 + r) (pl_rg hr) 8 (by decide) lk_2_28 rfl rfl rfl (Nat.le_of_ble_eq_true rfl) (pu_rg_walkLeft hr) dX2_advanceGreen_85 ?_
          refine j_goto C 108 dX2_advanceGreen_88 (by decide) ?_
          exact B.2.2 _ _ _ dX2_advanceGreen_108 hE
      · have hE := (if_neg c8).symm.trans hE
        refine j_aload_n C 0 dX2_advanceGreen_58 rfl ?_
        refine j_get C kf_2 (23 + r) (pl_rg hr) 6 (by decide) lk_2_44 rfl dX2_advanceGreen_59 ?_
        refine j_iconst C 1 dX2_advanceGreen_62 ic_1 ?_
        refine j_iadd C dX2_advanceGreen_63 ?_
        refine j_goto C 68 dX2_advanceGreen_64 (by decide) ?_
        refine j_put C kf_2 (23 + r) (pl_rg hr) 6 (by decide) lk_2_44 rfl rfl rfl (Nat.le_of_ble_eq_true rfl) (pu_rg_pressure hr) dX2_advanceGreen_68 ?_
        refine j_aload_n C 0 dX2_advanceGreen_71 rfl ?_
        refine j_get C kf_2 (23 + r) (pl_rg hr) 8 (by decide) lk_2_28 rfl dX2_advanceGreen_72 ?_
        refine j_if_le C 91 dX2_advanceGreen_75 (by decide) (fun c11 => ?_) (fun c11 => ?_)
        · have hE := (if_pos c11).symm.trans hE
          refine j_aload_n C 0 dX2_advanceGreen_91 rfl ?_
          refine j_get C kf_2 (23 + r) (pl_rg hr) 9 (by decide) lk_2_31 rfl dX2_advanceGreen_92 ?_
          refine j_if_le C 108 dX2_advanceGreen_95 (by decide) (fun c12 => ?_) (fun c12 => ?_)
          · have hE := (if_pos c12).symm.trans hE
            exact B.2.2 _ _ _ dX2_advanceGreen_108 hE
          · have hE := (if_neg c12).symm.trans hE
            refine j_aload_n C 0 dX2_advanceGreen_98 rfl ?_
            refine j_dup C dX2_advanceGreen_99 rfl ?_
            refine j_get C kf_2 (23 + r) (pl_rg hr) 9 (by decide) lk_2_31 rfl dX2_advanceGreen_100 ?_
            refine j_iconst C 1 dX2_advanceGreen_103 ic_1 ?_
            refine j_isub C dX2_advanceGreen_104 ?_
            refine j_put C kf_2 (23 + r) (pl_rg hr) 9 (by decide) lk_2_31 rfl rfl rfl (Nat.le_of_ble_eq_true rfl) (pu_rg_clearingLeft hr) dX2_advanceGreen_105 ?_
            exact B.2.2 _ _ _ dX2_advanceGreen_108 hE
        · have hE := (if_neg c11).symm.trans hE
          refine j_aload_n C 0 dX2_advanceGreen_78 rfl ?_
          refine j_dup C dX2_advanceGreen_79 rfl ?_
          refine j_get C kf_2 (23 + r) (pl_rg hr) 8 (by decide) lk_2_28 rfl dX2_advanceGreen_80 ?_
          refine j_iconst C 1 dX2_advanceGreen_83 ic_1 ?_
          refine j_isub C dX2_advanceGreen_84 ?_
          refine j_put C kf_2 (23 + r) (pl_rg hr) 8 (by decide) lk_2_28 rfl rfl rfl (Nat.le_of_ble_eq_true rfl) (pu_rg_walkLeft hr) dX2_advanceGreen_85 ?_
          refine j_goto C 108 dX2_advanceGreen_88 (by decide) ?_
          exact B.2.2 _ _ _ dX2_advanceGreen_108 hE
    · have hE := (if_neg c7).symm.trans hE
      refine j_aload_n C 0 dX2_advanceGreen_26 rfl ?_
      refine j_aload_n C 1 dX2_advanceGreen_27 rfl ?_
      refine j_get C kf_1 (7 + k) (pl_mv hk) 0 (by decide) lk_2_51 rfl dX2_advanceGreen_28 ?_
      refine j_iconst C 1 dX2_advanceGreen_31 ic_1 ?_
      refine j_iald C (15 + k) 0 (pl_times hk) rfl 1 ix_1 (by decide) (by decide) dX2_advanceGreen_32 ?_
      refine j_put C kf_2 (23 + r) (pl_rg hr) 5 (by decide) lk_2_41 rfl rfl rfl (Nat.le_of_ble_eq_true rfl) (pu_rg_left hr) dX2_advanceGreen_33 ?_
      refine j_goto C 53 dX2_advanceGreen_36 (by decide) ?_
      refine j_aload_n C 0 dX2_advanceGreen_53 rfl ?_
      refine j_iload_n C 2 dX2_advanceGreen_54 rfl ?_
      refine j_if_eq C 67 dX2_advanceGreen_55 (by decide) (fun c13 => ?_) (fun c13 => ?_)
      · have hE := (if_pos c13).symm.trans hE
        refine j_iconst C 0 dX2_advanceGreen_67 ic_0 ?_
        refine j_put C kf_2 (23 + r) (pl_rg hr) 6 (by decide) lk_2_44 rfl rfl rfl (Nat.le_of_ble_eq_true rfl) (pu_rg_pressure hr) dX2_advanceGreen_68 ?_
        refine j_aload_n C 0 dX2_advanceGreen_71 rfl ?_
        refine j_get C kf_2 (23 + r) (pl_rg hr) 8 (by decide) lk_2_28 rfl dX2_advanceGreen_72 ?_
        refine j_if_le C 91 dX2_advanceGreen_75 (by decide) (fun c14 => ?_) (fun c14 => ?_)
        · have hE := (if_pos c14).symm.trans hE
          refine j_aload_n C 0 dX2_advanceGreen_91 rfl ?_
          refine j_get C kf_2 (23 + r) (pl_rg hr) 9 (by decide) lk_2_31 rfl dX2_advanceGreen_92 ?_
          refine j_if_le C 108 dX2_advanceGreen_95 (by decide) (fun c15 => ?_) (fun c15 => ?_)
          · have hE := (if_pos c15).symm.trans hE
            exact B.2.2 _ _ _ dX2_advanceGreen_108 hE
          · have hE := (if_neg c15).symm.trans hE
            refine j_aload_n C 0 dX2_advanceGreen_98 rfl ?_
            refine j_dup C dX2_advanceGreen_99 rfl ?_
            refine j_get C kf_2 (23 + r) (pl_rg hr) 9 (by decide) lk_2_31 rfl dX2_advanceGreen_100 ?_
            refine j_iconst C 1 dX2_advanceGreen_103 ic_1 ?_
            refine j_isub C dX2_advanceGreen_104 ?_
            refine j_put C kf_2 (23 + r) (pl_rg hr) 9 (by decide) lk_2_31 rfl rfl rfl (Nat.le_of_ble_eq_true rfl) (pu_rg_clearingLeft hr) dX2_advanceGreen_105 ?_
            exact B.2.2 _ _ _ dX2_advanceGreen_108 hE
        · have hE := (if_neg c14).symm.trans hE
          refine j_aload_n C 0 dX2_advanceGreen_78 rfl ?_
          refine j_dup C dX2_advanceGreen_79 rfl ?_
          refine j_get C kf_2 (23 + r) (pl_rg hr) 8 (by decide) lk_2_28 rfl dX2_advanceGreen_80 ?_
          refine j_iconst C 1 dX2_advanceGreen_83 ic_1 ?_
          refine j_isub C dX2_advanceGreen_84 ?_
          refine j_put C kf_2 (23 + r) (pl_rg hr) 8 (by decide) lk_2_28 rfl rfl rfl (Nat.le_of_ble_eq_true rfl) (pu_rg_walkLeft hr) dX2_advanceGreen_85 ?_
          refine j_goto C 108 dX2_advanceGreen_88 (by decide) ?_
          exact B.2.2 _ _ _ dX2_advanceGreen_108 hE
      · have hE := (if_neg c13).symm.trans hE
        refine j_aload_n C 0 dX2_advanceGreen_58 rfl ?_
        refine j_get C kf_2 (23 + r) (pl_rg hr) 6 (by decide) lk_2_44 rfl dX2_advanceGreen_59 ?_
        refine j_iconst C 1 dX2_advanceGreen_62 ic_1 ?_
        refine j_iadd C dX2_advanceGreen_63 ?_
        refine j_goto C 68 dX2_advanceGreen_64 (by decide) ?_
        refine j_put C kf_2 (23 + r) (pl_rg hr) 6 (by decide) lk_2_44 rfl rfl rfl (Nat.le_of_ble_eq_true rfl) (pu_rg_pressure hr) dX2_advanceGreen_68 ?_
        refine j_aload_n C 0 dX2_advanceGreen_71 rfl ?_
        refine j_get C kf_2 (23 + r) (pl_rg hr) 8 (by decide) lk_2_28 rfl dX2_advanceGreen_72 ?_
        refine j_if_le C 91 dX2_advanceGreen_75 (by decide) (fun c16 => ?_) (fun c16 => ?_)
        · have hE := (if_pos c16).symm.trans hE
          refine j_aload_n C 0 dX2_advanceGreen_91 rfl ?_
          refine j_get C kf_2 (23 + r) (pl_rg hr) 9 (by decide) lk_2_31 rfl dX2_advanceGreen_92 ?_
          refine j_if_le C 108 dX2_advanceGreen_95 (by decide) (fun c17 => ?_) (fun c17 => ?_)
          · have hE := (if_pos c17).symm.trans hE
            exact B.2.2 _ _ _ dX2_advanceGreen_108 hE
          · have hE := (if_neg c17).symm.trans hE
            refine j_aload_n C 0 dX2_advanceGreen_98 rfl ?_
            refine j_dup C dX2_advanceGreen_99 rfl ?_
            refine j_get C kf_2 (23 + r) (pl_rg hr) 9 (by decide) lk_2_31 rfl dX2_advanceGreen_100 ?_
            refine j_iconst C 1 dX2_advanceGreen_103 ic_1 ?_
            refine j_isub C dX2_advanceGreen_104 ?_
            refine j_put C kf_2 (23 + r) (pl_rg hr) 9 (by decide) lk_2_31 rfl rfl rfl (Nat.le_of_ble_eq_true rfl) (pu_rg_clearingLeft hr) dX2_advanceGreen_105 ?_
            exact B.2.2 _ _ _ dX2_advanceGreen_108 hE
        · have hE := (if_neg c16).symm.trans hE
          refine j_aload_n C 0 dX2_advanceGreen_78 rfl ?_
          refine j_dup C dX2_advanceGreen_79 rfl ?_
          refine j_get C kf_2 (23 + r) (pl_rg hr) 8 (by decide) lk_2_28 rfl dX2_advanceGreen_80 ?_
          refine j_iconst C 1 dX2_advanceGreen_83 ic_1 ?_
          refine j_isub C dX2_advanceGreen_84 ?_
          refine j_put C kf_2 (23 + r) (pl_rg hr) 8 (by decide) lk_2_28 rfl rfl rfl (Nat.le_of_ble_eq_true rfl) (pu_rg_walkLeft hr) dX2_advanceGreen_85 ?_
          refine j_goto C 108 dX2_advanceGreen_88 (by decide) ?_
          exact B.2.2 _ _ _ dX2_advanceGreen_108 hE
theorem c_R_advanceGreen (l : Launch) (D : va_G) (z : Nat → ClassId) (a : Nat → Nat) (u : St) (r : Nat) (k : Nat) (b0 : Int32) (hr : r < 2) (hk : k < 8) : CtV l yX2_advanceGreen (.code yX2_advanceGreen cX2_advanceGreen 3 none :: TT) rm_R_advanceGreen D clA (tyl z) (cW z a) [.ref (a (23 + r)), .ref (a (7 + k)), .int b0] u (f_R_advanceGreen u r k b0) :=
  jk_metV (own := RX2) (by decide) rfl (Nat.le_of_ble_eq_true rfl) (fun _ _ _ _ _ _ _ _ _ _ _ B => w_R_advanceGreen_0 B hr hk b0 rfl)
end WLK
end
section
section WLK
variable {p : Program} {l : Launch} {e : Env} {R : Room} {s : State} {m : MethodId} {args : Array Value} {below : List Frame} {meth : Method} {c : Code} {D : va_G} {z : Nat → ClassId} {a : Nat → Nat} {A : Nat → Prop} {Q : State → Prop}
def rm_R_endGreen : Room := { frames := 1, cells := 0, slots := 0, locals := 21 }
def f_R_endGreen (u : St) (r : Nat) (x0 : Int32) : St := (up2 (f_R_enter u r (2 : Int32)) 35 r x0)
set_option maxRecDepth 20000 in
set_option maxHeartbeats 1000000 in
theorem w_R_endGreen_0 {F : St} {u : St} (B : jk_BV p l e R s m args below meth c cX2_endGreen 2 RX2 TT D clA (tyl z) (cW z a) A Q rm_R_endGreen F) {r : Nat} (hr : r < 2) (x0 : Int32) (hE : f_R_endGreen u r x0 = F) : JJ p l e R s m args below meth c 0 0 2 D clA (cW z a) A Q 0 [(0, .ref (a (23 + r))), (1, .int x0)] u [] := by
  have C := B.1
  unfold f_R_endGreen at hE
  refine j_aload_n C 0 dX2_endGreen_0 rfl ?_
  refine j_iconst C 2 dX2_endGreen_1 ic_2 ?_
  refine j_cVV C B.2.1 (c_R_enter l D z a u r (2 : Int32) hr) gv_2_47 dd_R_enter ⟨⟨rfl, rfl⟩, Nat.le_of_ble_eq_true rfl, Nat.le_of_ble_eq_true rfl⟩ (23 + r) 2 (pl_rg hr) rfl rfl rfl rfl (Nat.le_of_ble_eq_true rfl) dX2_endGreen_2 ?_
  refine j_aload_n C 0 dX2_endGreen_5 rfl ?_
  refine j_iload_n C 1 dX2_endGreen_6 rfl ?_
  refine j_put C kf_2 (23 + r) (pl_rg hr) 7 (by decide) lk_2_25 rfl rfl rfl (Nat.le_of_ble_eq_true rfl) (pu_rg_next hr) dX2_endGreen_7 ?_
  exact B.2.2 _ _ _ dX2_endGreen_10 hE
theorem c_R_endGreen (l : Launch) (D : va_G) (z : Nat → ClassId) (a : Nat → Nat) (u : St) (r : Nat) (x0 : Int32) (hr : r < 2) : CtV l yX2_endGreen (.code yX2_endGreen cX2_endGreen 2 none :: TT) rm_R_endGreen D clA (tyl z) (cW z a) [.ref (a (23 + r)), .int x0] u (f_R_endGreen u r x0) :=
  jk_metV (own := RX2) (by decide) rfl (Nat.le_of_ble_eq_true rfl) (fun _ _ _ _ _ _ _ _ _ _ _ B => w_R_endGreen_0 B hr x0 rfl)
def rm_R_goDark : Room := { frames := 1, cells := 0, slots := 0, locals := 21 }
def f_R_goDark (u : St) (r : Nat) : St := (up2 (f_R_enter u r (0 : Int32)) 30 r (-1 : Int32))
set_option maxRecDepth 20000 in
set_option maxHeartbeats 1000000 in
theorem w_R_goDark_0 {F : St} {u : St} (B : jk_BV p l e R s m args below meth c cX2_goDark 1 RX2 TT D clA (tyl z) (cW z a) A Q rm_R_goDark F) {r : Nat} (hr : r < 2) (hE : f_R_goDark u r = F) : JJ p l e R s m args below meth c 0 0 1 D clA (cW z a) A Q 0 [(0, .ref (a (23 + r)))] u [] := by
  have C := B.1
  unfold f_R_goDark at hE
  refine j_aload_n C 0 dX2_goDark_0 rfl ?_
  refine j_iconst C 0 dX2_goDark_1 ic_0 ?_
  refine j_cVV C B.2.1 (c_R_enter l D z a u r (0 : Int32) hr) gv_2_47 dd_R_enter ⟨⟨rfl, rfl⟩, Nat.le_of_ble_eq_true rfl, Nat.le_of_ble_eq_true rfl⟩ (23 + r) 2 (pl_rg hr) rfl rfl rfl rfl (Nat.le_of_ble_eq_true rfl) dX2_goDark_2 ?_
  refine j_aload_n C 0 dX2_goDark_5 rfl ?_
  refine j_iconst C (-1) dX2_goDark_6 ic_m1 ?_
  refine j_put C kf_2 (23 + r) (pl_rg hr) 2 (by decide) lk_2_19 rfl rfl rfl (Nat.le_of_ble_eq_true rfl) (pu_rg_movement hr) dX2_goDark_7 ?_
  exact B.2.2 _ _ _ dX2_goDark_10 hE
theorem c_R_goDark (l : Launch) (D : va_G) (z : Nat → ClassId) (a : Nat → Nat) (u : St) (r : Nat) (hr : r < 2) : CtV l yX2_goDark (.code yX2_goDark cX2_goDark 1 none :: TT) rm_R_goDark D clA (tyl z) (cW z a) [.ref (a (23 + r))] u (f_R_goDark u r) :=
  jk_metV (own := RX2) (by decide) rfl (Nat.le_of_ble_eq_true rfl) (fun _ _ _ _ _ _ _ _ _ _ _ B => w_R_goDark_0 B hr rfl)
def rm_R_advanceEnding : Room := { frames := 2, cells := 0, slots := 0, locals := 41 }
def f_R_advanceEnding (u : St) (r : Nat) (k : Nat) : St := (if ((up2 u 32 r ((u 32 r) + (1 : Int32))) 31 r) = (2 : Int32) then (if ((up2 u 32 r ((u 32 r) + (1 : Int32))) 32 r) < ((up2 u 32 r ((u 32 r) + (1 : Int32))) (20 + k) 3) then (if ((up2 u 32 r ((u 32 r) + (1 : Int32))) 31 r) = (3 : Int32) then (if ((up2 u 32 r ((u 32 r) + (1 : Int32))) 32 r) < ((up2 u 32 r ((u 32 r) + (1 : Int32))) (20 + k) 4) then (up2 u 32 r ((u 32 r) + (1 : Int32))) else (f_R_goDark (up2 u 32 r ((u 32 r) + (1 : Int32))) r)) else (up2 u 32 r ((u 32 r) + (1 : Int32)))) else (if ((f_R_enter (up2 u 32 r ((u 32 r) + (1 : Int32))) r (3 : Int32)) 31 r) = (3 : Int32) then (if ((f_R_enter (up2 u 32 r ((u 32 r) + (1 : Int32))) r (3 : Int32)) 32 r) < ((f_R_enter (up2 u 32 r ((u 32 r) + (1 : Int32))) r (3 : Int32)) (20 + k) 4) then (f_R_enter (up2 u 32 r ((u 32 r) + (1 : Int32))) r (3 : Int32)) else (f_R_goDark (f_R_enter (up2 u 32 r ((u 32 r) + (1 : Int32))) r (3 : Int32)) r)) else (f_R_enter (up2 u 32 r ((u 32 r) + (1 : Int32))) r (3 : Int32)))) else (if ((up2 u 32 r ((u 32 r) + (1 : Int32))) 31 r) = (3 : Int32) then (if ((up2 u 32 r ((u 32 r) + (1 : Int32))) 32 r) < ((up2 u 32 r ((u 32 r) + (1 : Int32))) (20 + k) 4) then (up2 u 32 r ((u 32 r) + (1 : Int32))) else (f_R_goDark (up2 u 32 r ((u 32 r) + (1 : Int32))) r)) else (up2 u 32 r ((u 32 r) + (1 : Int32)))))
set_option maxRecDepth 20000 in
set_option maxHeartbeats 1000000 in
theorem w_R_advanceEnding_0 {F : St} {u : St} (B : jk_BV p l e R s m args below meth c cX2_advanceEnding 2 RX2 TT D clA (tyl z) (cW z a) A Q rm_R_advanceEnding F) {r : Nat} (hr : r < 2) {k : Nat} (hk : k < 8) (hE : f_R_advanceEnding u r k = F) : JJ p l e R s m args below meth c 0 0 2 D clA (cW z a) A Q 0 [(0, .ref (a (23 + r))), (1, .ref (a (7 + k)))] u [] := by
  have C := B.1
  unfold f_R_advanceEnding at hE
  refine j_aload_n C 0 dX2_advanceEnding_0 rfl ?_
  refine j_dup C dX2_advanceEnding_1 rfl ?_
  refine j_get C kf_2 (23 + r) (pl_rg hr) 4 (by decide) lk_2_34 rfl dX2_advanceEnding_2 ?_
  refine j_iconst C 1 dX2_advanceEnding_5 ic_1 ?_
  refine j_iadd C dX2_advanceEnding_6 ?_
  refine j_put C kf_2 (23 + r) (pl_rg hr) 4 (by decide) lk_2_34 rfl rfl rfl (Nat.le_of_ble_eq_true rfl) (pu_rg_age hr) dX2_advanceEnding_7 ?_
  refine j_aload_n C 0 dX2_advanceEnding_10 rfl ?_
  refine j_get C kf_2 (23 + r) (pl_rg hr) 3 (by decide) lk_2_22 rfl dX2_advanceEnding_11 ?_
  refine j_iconst C 2 dX2_advanceEnding_14 ic_2 ?_
  refine j_icmp_ne C 36 dX2_advanceEnding_15 (by decide) (fun c1 => ?_) (fun c1 => ?_)
  · have hE := (if_neg c1).symm.trans hE
    refine j_aload_n C 0 dX2_advanceEnding_36 rfl ?_
    refine j_get C kf_2 (23 + r) (pl_rg hr) 3 (by decide) lk_2_22 rfl dX2_advanceEnding_37 ?_
    refine j_iconst C 3 dX2_advanceEnding_40 ic_3 ?_
    refine j_icmp_ne C 61 dX2_advanceEnding_41 (by decide) (fun c2 => ?_) (fun c2 => ?_)
    · have hE := (if_neg c2).symm.trans hE
      exact B.2.2 _ _ _ dX2_advanceEnding_61 hE
    · have hE := (if_pos c2).symm.trans hE
      refine j_aload_n C 0 dX2_advanceEnding_44 rfl ?_
      refine j_get C kf_2 (23 + r) (pl_rg hr) 4 (by decide) lk_2_34 rfl dX2_advanceEnding_45 ?_
      refine j_aload_n C 1 dX2_advanceEnding_48 rfl ?_
      refine j_get C kf_1 (7 + k) (pl_mv hk) 0 (by decide) lk_2_51 rfl dX2_advanceEnding_49 ?_
      refine j_iconst C 4 dX2_advanceEnding_52 ic_4 ?_
      refine j_iald C (15 + k) 0 (pl_times hk) rfl 4 ix_4 (by decide) (by decide) dX2_advanceEnding_53 ?_
      refine j_icmp_lt C 61 dX2_advanceEnding_54 (by decide) (fun c3 => ?_) (fun c3 => ?_)
      · have hE := (if_pos c3).symm.trans hE
        exact B.2.2 _ _ _ dX2_advanceEnding_61 hE
      · have hE := (if_neg c3).symm.trans hE
        refine j_aload_n C 0 dX2_advanceEnding_57 rfl ?_
        refine j_cVV C B.2.1 (c_R_goDark l D z a (up2 u 32 r ((u 32 r) + (1 : Int32))) r hr) gv_2_75 dd_R_goDark ⟨⟨rfl, rfl⟩, Nat.le_of_ble_eq_true rfl, Nat.le_of_ble_eq_true rfl⟩ (23 + r) 2 (pl_rg hr) rfl rfl rfl rfl (Nat.le_of_ble_eq_true rfl) dX2_advanceEnding_58 ?_
        exact B.2.2 _ _ _ dX2_advanceEnding_61 hE
  · have hE := (if_pos c1).symm.trans hE
    refine j_aload_n C 0 dX2_advanceEnding_18 rfl ?_
    refine j_get C kf_2 (23 + r) (pl_rg hr) 4 (by decide) lk_2_34 rfl dX2_advanceEnding_19 ?_
    refine j_aload_n C 1 dX2_advanceEnding_22 rfl ?_
    refine j_get C kf_1 (7 + k) (pl_mv hk) 0 (by decide) lk_2_51 rfl dX2_advanceEnding_23 ?_
    refine j_iconst C 3 dX2_advanceEnding_26 ic_3 ?_
    refine j_iald C (15 + k) 0 (pl_times hk) rfl 3 ix_3 (by decide) (by decide) dX2_advanceEnding_27 ?_
    refine j_icmp_lt C 36 dX2_advanceEnding_28 (by decide) (fun c4 => ?_) (fun c4 => ?_)
    · have hE := (if_pos c4).symm.trans hE
      refine j_aload_n C 0 dX2_advanceEnding_36 rfl ?_
      refine j_get C kf_2 (23 + r) (pl_rg hr) 3 (by decide) lk_2_22 rfl dX2_advanceEnding_37 ?_
      refine j_iconst C 3 dX2_advanceEnding_40 ic_3 ?_
      refine j_icmp_ne C 61 dX2_advanceEnding_41 (by decide) (fun c5 => ?_) (fun c5 => ?_)
      · have hE := (if_neg c5).symm.trans hE
        exact B.2.2 _ _ _ dX2_advanceEnding_61 hE
      · have hE := (if_pos c5).symm.trans hE
        refine j_aload_n C 0 dX2_advanceEnding_44 rfl ?_
        refine j_get C kf_2 (23 + r) (pl_rg hr) 4 (by decide) lk_2_34 rfl dX2_advanceEnding_45 ?_
        refine j_aload_n C 1 dX2_advanceEnding_48 rfl ?_
        refine j_get C kf_1 (7 + k) (pl_mv hk) 0 (by decide) lk_2_51 rfl dX2_advanceEnding_49 ?_
        refine j_iconst C 4 dX2_advanceEnding_52 ic_4 ?_
        refine j_iald C (15 + k) 0 (pl_times hk) rfl 4 ix_4 (by decide) (by decide) dX2_advanceEnding_53 ?_
        refine j_icmp_lt C 61 dX2_advanceEnding_54 (by decide) (fun c6 => ?_) (fun c6 => ?_)
        · have hE := (if_pos c6).symm.trans hE
          exact B.2.2 _ _ _ dX2_advanceEnding_61 hE
        · have hE := (if_neg c6).symm.trans hE
          refine j_aload_n C 0 dX2_advanceEnding_57 rfl ?_
          refine j_cVV C B.2.1 (c_R_goDark l D z a (up2 u 32 r ((u 32 r) + (1 : Int32))) r hr) gv_2_75 dd_R_goDark ⟨⟨rfl, rfl⟩, Nat.le_of_ble_eq_true rfl, Nat.le_of_ble_eq_true rfl⟩ (23 + r) 2 (pl_rg hr) rfl rfl rfl rfl (Nat.le_of_ble_eq_true rfl) dX2_advanceEnding_58 ?_
          exact B.2.2 _ _ _ dX2_advanceEnding_61 hE
    · have hE := (if_neg c4).symm.trans hE
      refine j_aload_n C 0 dX2_advanceEnding_31 rfl ?_
      refine j_iconst C 3 dX2_advanceEnding_32 ic_3 ?_
      refine j_cVV C B.2.1 (c_R_enter l D z a (up2 u 32 r ((u 32 r) + (1 : Int32))) r (3 : Int32) hr) gv_2_47 dd_R_enter ⟨⟨rfl, rfl⟩, Nat.le_of_ble_eq_true rfl, Nat.le_of_ble_eq_true rfl⟩ (23 + r) 2 (pl_rg hr) rfl rfl rfl rfl (Nat.le_of_ble_eq_true rfl) dX2_advanceEnding_33 ?_
      refine j_aload_n C 0 dX2_advanceEnding_36 rfl ?_
      refine j_get C kf_2 (23 + r) (pl_rg hr) 3 (by decide) lk_2_22 rfl dX2_advanceEnding_37 ?_
      refine j_iconst C 3 dX2_advanceEnding_40 ic_3 ?_
      refine j_icmp_ne C 61 dX2_advanceEnding_41 (by decide) (fun c7 => ?_) (fun c7 => ?_)
      · have hE := (if_neg c7).symm.trans hE
        exact B.2.2 _ _ _ dX2_advanceEnding_61 hE
      · have hE := (if_pos c7).symm.trans hE
        refine j_aload_n C 0 dX2_advanceEnding_44 rfl ?_
        refine j_get C kf_2 (23 + r) (pl_rg hr) 4 (by decide) lk_2_34 rfl dX2_advanceEnding_45 ?_
        refine j_aload_n C 1 dX2_advanceEnding_48 rfl ?_
        refine j_get C kf_1 (7 + k) (pl_mv hk) 0 (by decide) lk_2_51 rfl dX2_advanceEnding_49 ?_
        refine j_iconst C 4 dX2_advanceEnding_52 ic_4 ?_
        refine j_iald C (15 + k) 0 (pl_times hk) rfl 4 ix_4 (by decide) (by decide) dX2_advanceEnding_53 ?_
        refine j_icmp_lt C 61 dX2_advanceEnding_54 (by decide) (fun c8 => ?_) (fun c8 => ?_)
        · have hE := (if_pos c8).symm.trans hE
          exact B.2.2 _ _ _ dX2_advanceEnding_61 hE
        · have hE := (if_neg c8).symm.trans hE
          refine j_aload_n C 0 dX2_advanceEnding_57 rfl ?_
          refine j_cVV C B.2.1 (c_R_goDark l D z a (f_R_enter (up2 u 32 r ((u 32 r) + (1 : Int32))) r (3 : Int32)) r hr) gv_2_75 dd_R_goDark ⟨⟨rfl, rfl⟩, Nat.le_of_ble_eq_true rfl, Nat.le_of_ble_eq_true rfl⟩ (23 + r) 2 (pl_rg hr) rfl rfl rfl rfl (Nat.le_of_ble_eq_true rfl) dX2_advanceEnding_58 ?_
          exact B.2.2 _ _ _ dX2_advanceEnding_61 hE
theorem c_R_advanceEnding (l : Launch) (D : va_G) (z : Nat → ClassId) (a : Nat → Nat) (u : St) (r : Nat) (k : Nat) (hr : r < 2) (hk : k < 8) : CtV l yX2_advanceEnding (.code yX2_advanceEnding cX2_advanceEnding 2 none :: TT) rm_R_advanceEnding D clA (tyl z) (cW z a) [.ref (a (23 + r)), .ref (a (7 + k))] u (f_R_advanceEnding u r k) :=
  jk_metV (own := RX2) (by decide) rfl (Nat.le_of_ble_eq_true rfl) (fun _ _ _ _ _ _ _ _ _ _ _ B => w_R_advanceEnding_0 B hr hk rfl)
def rm_ringOf : Room := { frames := 0, cells := 0, slots := 0, locals := 0 }
def f_ringOf (k0 : Nat) : Int32 := (nI (k0 / 4))
set_option maxRecDepth 20000 in
set_option maxHeartbeats 1000000 in
theorem w_ringOf_0 {Fr : Int32} {u : St} (B : jk_BI p l e R s m args below meth c cX3_ringOf 1 RX3 TT .int D clA (tyl z) (cW z a) A Q rm_ringOf (Fr, u)) {k0 : Nat} (hk0 : k0 < 8) (hE : f_ringOf k0 = Fr) : JJ p l e R s m args below meth c 0 0 1 D clA (cW z a) A Q 0 [(0, .int (nI k0))] u [] := by
  have C := B.1
  unfold f_ringOf at hE
  refine j_iload_n C 0 dX3_ringOf_0 rfl ?_
  refine j_iconst C 4 dX3_ringOf_1 ic_4 ?_
  refine j_idiv C (nI (k0 / 4)) dX3_ringOf_2 (by decide) (jk_div4 (by omega)) ?_
  exact B.2.2 _ _ _ _ dX3_ringOf_3 rfl (congrArg (fun x => (x, u)) hE)
theorem c_ringOf (l : Launch) (D : va_G) (z : Nat → ClassId) (a : Nat → Nat) (u : St) (k0 : Nat) (hk0 : k0 < 8) : CtI l yX3_ringOf (.code yX3_ringOf cX3_ringOf 1 (some .int) :: TT) rm_ringOf D clA (tyl z) (cW z a) [.int (nI k0)] u (f_ringOf k0) u :=
  jk_metI (own := RX3) (by decide) rfl (Nat.le_of_ble_eq_true rfl) (fun _ _ _ _ _ _ _ _ _ _ _ B => w_ringOf_0 B hk0 rfl)
def rm_sideOf : Room := { frames := 0, cells := 0, slots := 0, locals := 0 }
def f_sideOf (k0 : Nat) : Int32 := (nI ((k0 % 4) / 2))
set_option maxRecDepth 20000 in
set_option maxHeartbeats 1000000 in
theorem w_sideOf_0 {Fr : Int32} {u : St} (B : jk_BI p l e R s m args below meth c cX3_sideOf 1 RX3 TT .int D clA (tyl z) (cW z a) A Q rm_sideOf (Fr, u)) {k0 : Nat} (hk0 : k0 < 8) (hE : f_sideOf k0 = Fr) : JJ p l e R s m args below meth c 0 0 1 D clA (cW z a) A Q 0 [(0, .int (nI k0))] u [] := by
  have C := B.1
  unfold f_sideOf at hE
  refine j_iload_n C 0 dX3_sideOf_0 rfl ?_
  refine j_iconst C 4 dX3_sideOf_1 ic_4 ?_
  refine j_irem C (nI (k0 % 4)) dX3_sideOf_2 (by decide) (jk_rem4 (by omega)) ?_
  refine j_iconst C 2 dX3_sideOf_3 ic_2 ?_
  refine j_idiv C (nI ((k0 % 4) / 2)) dX3_sideOf_4 (by decide) (jk_div2 (by omega)) ?_
  exact B.2.2 _ _ _ _ dX3_sideOf_5 rfl (congrArg (fun x => (x, u)) hE)
theorem c_sideOf (l : Launch) (D : va_G) (z : Nat → ClassId) (a : Nat → Nat) (u : St) (k0 : Nat) (hk0 : k0 < 8) : CtI l yX3_sideOf (.code yX3_sideOf cX3_sideOf 1 (some .int) :: TT) rm_sideOf D clA (tyl z) (cW z a) [.int (nI k0)] u (f_sideOf k0) u :=
  jk_metI (own := RX3) (by decide) rfl (Nat.le_of_ble_eq_true rfl) (fun _ _ _ _ _ _ _ _ _ _ _ B => w_sideOf_0 B hk0 rfl)
def rm_areInWay : Room := { frames := 1, cells := 0, slots := 0, locals := 20 }
def f_areInWay (k0 : Nat) (k1 : Nat) : Int32 := (if (nI k0) = (nI k1) then (if (f_sideOf k0) = (f_sideOf k1) then (0 : Int32) else (1 : Int32)) else (if (f_ringOf k0) = (f_ringOf k1) then (1 : Int32) else (if (f_sideOf k0) = (f_sideOf k1) then (0 : Int32) else (1 : Int32))))
set_option maxRecDepth 20000 in
set_option maxHeartbeats 1000000 in
theorem w_areInWay_0 {Fr : Int32} {u : St} (B : jk_BI p l e R s m args below meth c cX3_areInWay 2 RX3 TT .boolean D clA (tyl z) (cW z a) A Q rm_areInWay (Fr, u)) {k0 : Nat} (hk0 : k0 < 8) {k1 : Nat} (hk1 : k1 < 8) (hE : f_areInWay k0 k1 = Fr) : JJ p l e R s m args below meth c 0 0 2 D clA (cW z a) A Q 0 [(0, .int (nI k0)), (1, .int (nI k1))] u [] := by
  have C := B.1
  unfold f_areInWay at hE
  refine j_iload_n C 0 dX3_areInWay_0 rfl ?_
  refine j_iload_n C 1 dX3_areInWay_1 rfl ?_
  refine j_icmp_eq C 16 dX3_areInWay_2 (by decide) (fun c1 => ?_) (fun c1 => ?_)
  · have hE := (if_pos c1).symm.trans hE
    refine j_iload_n C 0 dX3_areInWay_16 rfl ?_
    refine j_cIS C B.2.1 (c_sideOf l D z a u k0 hk0) gv_3_243 dd_sideOf ⟨⟨rfl, rfl⟩, Nat.le_of_ble_eq_true rfl, Nat.le_of_ble_eq_true rfl⟩ rfl rfl (Nat.le_of_ble_eq_true rfl) dX3_areInWay_17 ?_
    refine j_iload_n C 1 dX3_areInWay_20 rfl ?_
    refine j_cIS C B.2.1 (c_sideOf l D z a u k1 hk1) gv_3_243 dd_sideOf ⟨⟨rfl, rfl⟩, Nat.le_of_ble_eq_true rfl, Nat.le_of_ble_eq_true rfl⟩ rfl rfl (Nat.le_of_ble_eq_true rfl) dX3_areInWay_21 ?_
    refine j_icmp_eq C 31 dX3_areInWay_24 (by decide) (fun c2 => ?_) (fun c2 => ?_)
    · have hE := (if_pos c2).symm.trans hE
      refine j_iconst C 0 dX3_areInWay_31 ic_0 ?_
      exact B.2.2 _ _ _ _ dX3_areInWay_32 rfl (congrArg (fun x => (x, u)) hE)
    · have hE := (if_neg c2).symm.trans hE
      refine j_iconst C 1 dX3_areInWay_27 ic_1 ?_
      refine j_goto C 32 dX3_areInWay_28 (by decide) ?_
      exact B.2.2 _ _ _ _ dX3_areInWay_32 rfl (congrArg (fun x => (x, u)) hE)
  · have hE := (if_neg c1).symm.trans hE
    refine j_iload_n C 0 dX3_areInWay_5 rfl ?_
    refine j_cIS C B.2.1 (c_ringOf l D z a u k0 hk0) gv_3_115 dd_ringOf ⟨⟨rfl, rfl⟩, Nat.le_of_ble_eq_true rfl, Nat.le_of_ble_eq_true rfl⟩ rfl rfl (Nat.le_of_ble_eq_true rfl) dX3_areInWay_6 ?_
    refine j_iload_n C 1 dX3_areInWay_9 rfl ?_
    refine j_cIS C B.2.1 (c_ringOf l D z a u k1 hk1) gv_3_115 dd_ringOf ⟨⟨rfl, rfl⟩, Nat.le_of_ble_eq_true rfl, Nat.le_of_ble_eq_true rfl⟩ rfl rfl (Nat.le_of_ble_eq_true rfl) dX3_areInWay_10 ?_
    refine j_icmp_eq C 27 dX3_areInWay_13 (by decide) (fun c3 => ?_) (fun c3 => ?_)
    · have hE := (if_pos c3).symm.trans hE
      refine j_iconst C 1 dX3_areInWay_27 ic_1 ?_
      refine j_goto C 32 dX3_areInWay_28 (by decide) ?_
      exact B.2.2 _ _ _ _ dX3_areInWay_32 rfl (congrArg (fun x => (x, u)) hE)
    · have hE := (if_neg c3).symm.trans hE
      refine j_iload_n C 0 dX3_areInWay_16 rfl ?_
      refine j_cIS C B.2.1 (c_sideOf l D z a u k0 hk0) gv_3_243 dd_sideOf ⟨⟨rfl, rfl⟩, Nat.le_of_ble_eq_true rfl, Nat.le_of_ble_eq_true rfl⟩ rfl rfl (Nat.le_of_ble_eq_true rfl) dX3_areInWay_17 ?_
      refine j_iload_n C 1 dX3_areInWay_20 rfl ?_
      refine j_cIS C B.2.1 (c_sideOf l D z a u k1 hk1) gv_3_243 dd_sideOf ⟨⟨rfl, rfl⟩, Nat.le_of_ble_eq_true rfl, Nat.le_of_ble_eq_true rfl⟩ rfl rfl (Nat.le_of_ble_eq_true rfl) dX3_areInWay_21 ?_
      refine j_icmp_eq C 31 dX3_areInWay_24 (by decide) (fun c4 => ?_) (fun c4 => ?_)
      · have hE := (if_pos c4).symm.trans hE
        refine j_iconst C 0 dX3_areInWay_31 ic_0 ?_
        exact B.2.2 _ _ _ _ dX3_areInWay_32 rfl (congrArg (fun x => (x, u)) hE)
      · have hE := (if_neg c4).symm.trans hE
        refine j_iconst C 1 dX3_areInWay_27 ic_1 ?_
        refine j_goto C 32 dX3_areInWay_28 (by decide) ?_
        exact B.2.2 _ _ _ _ dX3_areInWay_32 rfl (congrArg (fun x => (x, u)) hE)
theorem c_areInWay (l : Launch) (D : va_G) (z : Nat → ClassId) (a : Nat → Nat) (u : St) (k0 : Nat) (k1 : Nat) (hk0 : k0 < 8) (hk1 : k1 < 8) : CtI l yX3_areInWay (.code yX3_areInWay cX3_areInWay 2 (some .boolean) :: TT) rm_areInWay D clA (tyl z) (cW z a) [.int (nI k0), .int (nI k1)] u (f_areInWay k0 k1) u :=
  jk_metI (own := RX3) (by decide) rfl (Nat.le_of_ble_eq_true rfl) (fun _ _ _ _ _ _ _ _ _ _ _ B => w_areInWay_0 B hk0 hk1 rfl)
def rm_anyInTheWay : Room := { frames := 2, cells := 0, slots := 0, locals := 41 }
def f_anyInTheWay_12 (u : St)  (K : Int32) : Nat → Nat → Nat → Int32
  | 0, i, k1 => (K)
  | n + 1, i, k1 => (if (u 2 k1) = (0 : Int32) then (f_anyInTheWay_12 u K n (i + 1) k1) else (if (u 2 i) = (0 : Int32) then (f_anyInTheWay_12 u K n (i + 1) k1) else (if (f_areInWay k1 i) = (0 : Int32) then (f_anyInTheWay_12 u K n (i + 1) k1) else (1 : Int32))))
set_option maxRecDepth 20000 in
set_option maxHeartbeats 1000000 in
theorem w_anyInTheWay_12 {Fr : Int32} {u : St} (B : jk_BI p l e R s m args below meth c cX3_anyInTheWay 3 RX3 TT .boolean D clA (tyl z) (cW z a) A Q rm_anyInTheWay (Fr, u))  {k1 : Nat} (hk1 : k1 < 8) (K : Int32) (hK : K = Fr → JJ p l e R s m args below meth c 0 0 3 D clA (cW z a) A Q 46 [(1, .int (nI k1)), (0, .ref (a 4))] u []) : ∀ (n i : Nat), i + n = 8 → f_anyInTheWay_12 u K n i k1 = Fr → JJ p l e R s m args below meth c 0 0 3 D clA (cW z a) A Q 12 [(2, .int (nI i)), (1, .int (nI k1)), (0, .ref (a 4))] u [] := by
  have C := B.1
  intro n
  induction n with
  | zero =>
    intro i hin hE
    obtain rfl : i = 8 := by omega
    have hge : (8 : Int32) ≤ nI 8 := by decide
    refine j_iload_n C 0 dX3_anyInTheWay_12 rfl ?_
    refine j_bipush C 8 dX3_anyInTheWay_13 bp_8 ?_
    refine j_icmp_ge C 46 dX3_anyInTheWay_15 (by decide) (fun _ => ?_) (fun hq => absurd hge hq)
    refine j_lv [1, 2] rfl ?_
    exact hK hE
  | succ n ih =>
    intro i hin hE
    have hlt : i < 8 := by omega
    have hnge : ¬ (8 : Int32) ≤ nI i := lt8 i hlt
    refine j_iload_n C 0 dX3_anyInTheWay_12 rfl ?_
    refine j_bipush C 8 dX3_anyInTheWay_13 bp_8 ?_
    refine j_icmp_ge C 46 dX3_anyInTheWay_15 (by decide) (fun hq => absurd hq hnge) (fun _ => ?_)
    refine j_aload_n C 2 dX3_anyInTheWay_18 rfl ?_
    refine j_iload_n C 1 dX3_anyInTheWay_19 rfl ?_
    refine j_iald C 4 0 pl_lights rfl k1 rfl hk1 (by decide) dX3_anyInTheWay_20 ?_
    refine j_if_eq C 40 dX3_anyInTheWay_21 (by decide) (fun c1 => ?_) (fun c1 => ?_)
    · have hE := (if_pos c1).symm.trans hE
      refine j_iinc C 0 (nI (i + 1)) dX3_anyInTheWay_40 rfl (nI_1 _) (by decide) rfl ?_
      refine j_goto C 12 dX3_anyInTheWay_43 (by decide) ?_
      exact ih (i + 1) (by omega) hE
    · have hE := (if_neg c1).symm.trans hE
      refine j_aload_n C 2 dX3_anyInTheWay_24 rfl ?_
      refine j_iload_n C 0 dX3_anyInTheWay_25 rfl ?_
      refine j_iald C 4 0 pl_lights rfl i rfl hlt (by decide) dX3_anyInTheWay_26 ?_
      refine j_if_eq C 40 dX3_anyInTheWay_27 (by decide) (fun c2 => ?_) (fun c2 => ?_)
      · have hE := (if_pos c2).symm.trans hE
        refine j_iinc C 0 (nI (i + 1)) dX3_anyInTheWay_40 rfl (nI_1 _) (by decide) rfl ?_
        refine j_goto C 12 dX3_anyInTheWay_43 (by decide) ?_
        exact ih (i + 1) (by omega) hE
      · have hE := (if_neg c2).symm.trans hE
        refine j_iload_n C 1 dX3_anyInTheWay_30 rfl ?_
        refine j_iload_n C 0 dX3_anyInTheWay_31 rfl ?_
        refine j_cIS C B.2.1 (c_areInWay l D z a u k1 i hk1 hlt) gv_3_252 dd_areInWay ⟨⟨rfl, rfl⟩, Nat.le_of_ble_eq_true rfl, Nat.le_of_ble_eq_true rfl⟩ rfl rfl (Nat.le_of_ble_eq_true rfl) dX3_anyInTheWay_32 ?_
        refine j_if_eq C 40 dX3_anyInTheWay_35 (by decide) (fun c3 => ?_) (fun c3 => ?_)
        · have hE := (if_pos c3).symm.trans hE
          refine j_iinc C 0 (nI (i + 1)) dX3_anyInTheWay_40 rfl (nI_1 _) (by decide) rfl ?_
          refine j_goto C 12 dX3_anyInTheWay_43 (by decide) ?_
          exact ih (i + 1) (by omega) hE
        · have hE := (if_neg c3).symm.trans hE
          refine j_iconst C 1 dX3_anyInTheWay_38 ic_1 ?_
          exact B.2.2 _ _ _ _ dX3_anyInTheWay_39 rfl (congrArg (fun x => (x, u)) hE)
def f_anyInTheWay_2 (u : St)  : Nat → Nat → Int32
  | 0, i => (0 : Int32)
  | n + 1, i => (f_anyInTheWay_12 u (f_anyInTheWay_2 u n (i + 1)) (8 - (i + 1)) (i + 1) i)
set_option maxRecDepth 20000 in
set_option maxHeartbeats 1000000 in
theorem w_anyInTheWay_2 {Fr : Int32} {u : St} (B : jk_BI p l e R s m args below meth c cX3_anyInTheWay 3 RX3 TT .boolean D clA (tyl z) (cW z a) A Q rm_anyInTheWay (Fr, u))  : ∀ (n i : Nat), i + n = 8 → f_anyInTheWay_2 u n i = Fr → JJ p l e R s m args below meth c 0 0 3 D clA (cW z a) A Q 2 [(1, .int (nI i)), (0, .ref (a 4))] u [] := by
  have C := B.1
  intro n
  induction n with
  | zero =>
    intro i hin hE
    obtain rfl : i = 8 := by omega
    have hge : (8 : Int32) ≤ nI 8 := by decide
    refine j_iload_n C 0 dX3_anyInTheWay_2 rfl ?_
    refine j_bipush C 8 dX3_anyInTheWay_3 bp_8 ?_
    refine j_icmp_ge C 52 dX3_anyInTheWay_5 (by decide) (fun _ => ?_) (fun hq => absurd hge hq)
    refine j_iconst C 0 dX3_anyInTheWay_52 ic_0 ?_
    exact B.2.2 _ _ _ _ dX3_anyInTheWay_53 rfl (congrArg (fun x => (x, u)) hE)
  | succ n ih =>
    intro i hin hE
    have hlt : i < 8 := by omega
    have hnge : ¬ (8 : Int32) ≤ nI i := lt8 i hlt
    refine j_iload_n C 0 dX3_anyInTheWay_2 rfl ?_
    refine j_bipush C 8 dX3_anyInTheWay_3 bp_8 ?_
    refine j_icmp_ge C 52 dX3_anyInTheWay_5 (by decide) (fun hq => absurd hq hnge) (fun _ => ?_)
    refine j_iload_n C 0 dX3_anyInTheWay_8 rfl ?_
    refine j_iconst C 1 dX3_anyInTheWay_9 ic_1 ?_
    refine j_iadd C dX3_anyInTheWay_10 ?_
    refine j_st (st' := [.int (nI (i + 1))]) (by rw [show (1 : Int32) = nI 1 from rfl, nI_add]) ?_
    refine j_istore_n C dX3_anyInTheWay_11 (by decide) rfl ?_
    refine w_anyInTheWay_12 B hlt (f_anyInTheWay_2 u n (i + 1)) (fun hE => ?_) (8 - (i + 1)) (i + 1) (by omega) hE
    refine j_iinc C 0 (nI (i + 1)) dX3_anyInTheWay_46 rfl (nI_1 _) (by decide) rfl ?_
    refine j_goto C 2 dX3_anyInTheWay_49 (by decide) ?_
    exact ih (i + 1) (by omega) hE
def f_anyInTheWay (u : St)  : Int32 := (f_anyInTheWay_2 u 8 0)
set_option maxRecDepth 20000 in
set_option maxHeartbeats 1000000 in
theorem w_anyInTheWay_0 {Fr : Int32} {u : St} (B : jk_BI p l e R s m args below meth c cX3_anyInTheWay 3 RX3 TT .boolean D clA (tyl z) (cW z a) A Q rm_anyInTheWay (Fr, u))  (hE : f_anyInTheWay u = Fr) : JJ p l e R s m args below meth c 0 0 3 D clA (cW z a) A Q 0 [(0, .ref (a 4))] u [] := by
  have C := B.1
  unfold f_anyInTheWay at hE
  refine j_iconst C 0 dX3_anyInTheWay_0 ic_0 ?_
  refine j_istore_n C dX3_anyInTheWay_1 (by decide) rfl ?_
  refine j_lq (congrArg (fun x => ([(1, .int x), (0, .ref (a 4))] : List (Nat × Value))) ix_0) ?_
  exact w_anyInTheWay_2 B 8 0 (by omega) hE
theorem c_anyInTheWay (l : Launch) (D : va_G) (z : Nat → ClassId) (a : Nat → Nat) (u : St)  : CtI l yX3_anyInTheWay (.code yX3_anyInTheWay cX3_anyInTheWay 3 (some .boolean) :: TT) rm_anyInTheWay D clA (tyl z) (cW z a) [.ref (a 4)] u (f_anyInTheWay u) u :=
  jk_metI (own := RX3) (by decide) rfl (Nat.le_of_ble_eq_true rfl) (fun _ _ _ _ _ _ _ _ _ _ _ B => w_anyInTheWay_0 B rfl)
def rm_G_hadShortYellow : Room := { frames := 0, cells := 0, slots := 0, locals := 0 }
def f_G_hadShortYellow (u : St) (k0 : Nat) : Int32 := (if (u 3 k0) = (1 : Int32) then (if (3 : Int32) ≤ (u 4 k0) then (0 : Int32) else (1 : Int32)) else (0 : Int32))
set_option maxRecDepth 20000 in
set_option maxHeartbeats 1000000 in
theorem w_G_hadShortYellow_0 {Fr : Int32} {u : St} (B : jk_BI p l e R s m args below meth c cX0_hadShortYellow 2 RX0 TT .boolean D clA (tyl z) (cW z a) A Q rm_G_hadShortYellow (Fr, u)) {k0 : Nat} (hk0 : k0 < 8) (hE : f_G_hadShortYellow u k0 = Fr) : JJ p l e R s m args below meth c 0 0 2 D clA (cW z a) A Q 0 [(0, .ref (a 3)), (1, .int (nI k0))] u [] := by
  have C := B.1
  unfold f_G_hadShortYellow at hE
  refine j_aload_n C 0 dX0_hadShortYellow_0 rfl ?_
  refine j_get C kf_0 3 pl_guard 0 (by decide) lk_0_9 rfl dX0_hadShortYellow_1 ?_
  refine j_iload_n C 1 dX0_hadShortYellow_4 rfl ?_
  refine j_iald C 5 0 pl_last rfl k0 rfl hk0 (by decide) dX0_hadShortYellow_5 ?_
  refine j_iconst C 1 dX0_hadShortYellow_6 ic_1 ?_
  refine j_icmp_ne C 24 dX0_hadShortYellow_7 (by decide) (fun c1 => ?_) (fun c1 => ?_)
  · have hE := (if_neg c1).symm.trans hE
    refine j_iconst C 0 dX0_hadShortYellow_24 ic_0 ?_
    exact B.2.2 _ _ _ _ dX0_hadShortYellow_25 rfl (congrArg (fun x => (x, u)) hE)
  · have hE := (if_pos c1).symm.trans hE
    refine j_aload_n C 0 dX0_hadShortYellow_10 rfl ?_
    refine j_get C kf_0 3 pl_guard 1 (by decide) lk_0_15 rfl dX0_hadShortYellow_11 ?_
    refine j_iload_n C 1 dX0_hadShortYellow_14 rfl ?_
    refine j_iald C 6 0 pl_yel rfl k0 rfl hk0 (by decide) dX0_hadShortYellow_15 ?_
    refine j_iconst C 3 dX0_hadShortYellow_16 ic_3 ?_
    refine j_icmp_ge C 24 dX0_hadShortYellow_17 (by decide) (fun c2 => ?_) (fun c2 => ?_)
    · have hE := (if_pos c2).symm.trans hE
      refine j_iconst C 0 dX0_hadShortYellow_24 ic_0 ?_
      exact B.2.2 _ _ _ _ dX0_hadShortYellow_25 rfl (congrArg (fun x => (x, u)) hE)
    · have hE := (if_neg c2).symm.trans hE
      refine j_iconst C 1 dX0_hadShortYellow_20 ic_1 ?_
      refine j_goto C 25 dX0_hadShortYellow_21 (by decide) ?_
      exact B.2.2 _ _ _ _ dX0_hadShortYellow_25 rfl (congrArg (fun x => (x, u)) hE)
theorem c_G_hadShortYellow (l : Launch) (D : va_G) (z : Nat → ClassId) (a : Nat → Nat) (u : St) (k0 : Nat) (hk0 : k0 < 8) : CtI l yX0_hadShortYellow (.code yX0_hadShortYellow cX0_hadShortYellow 2 (some .boolean) :: TT) rm_G_hadShortYellow D clA (tyl z) (cW z a) [.ref (a 3), .int (nI k0)] u (f_G_hadShortYellow u k0) u :=
  jk_metI (own := RX0) (by decide) rfl (Nat.le_of_ble_eq_true rfl) (fun _ _ _ _ _ _ _ _ _ _ _ B => w_G_hadShortYellow_0 B hk0 rfl)
def rm_G_leastFault : Room := { frames := 1, cells := 0, slots := 0, locals := 21 }
def f_G_leastFault_18 (u : St) (b0 : Int32) : Nat → Nat → Int32 → Int32
  | 0, i, x9 => x9
  | n + 1, i, x9 => (if (u 2 i) = (0 : Int32) then (if (u 3 i) = (2 : Int32) then (2 : Int32) else (if (u 2 i) = (0 : Int32) then (if (f_G_hadShortYellow u i) = (0 : Int32) then (f_G_leastFault_18 u b0 n (i + 1) x9) else (f_G_leastFault_18 u b0 n (i + 1) (3 : Int32))) else (f_G_leastFault_18 u b0 n (i + 1) x9))) else (if (u 2 i) = (0 : Int32) then (if (f_G_hadShortYellow u i) = (0 : Int32) then (f_G_leastFault_18 u b0 n (i + 1) x9) else (f_G_leastFault_18 u b0 n (i + 1) (3 : Int32))) else (f_G_leastFault_18 u b0 n (i + 1) x9)))
set_option maxRecDepth 20000 in
set_option maxHeartbeats 1000000 in
theorem w_G_leastFault_18 {Fr : Int32} {u : St} (B : jk_BI p l e R s m args below meth c cX0_leastFault 5 RX0 TT .int D clA (tyl z) (cW z a) A Q rm_G_leastFault (Fr, u)) (b0 : Int32) : ∀ (n i : Nat) (x9 : Int32), i + n = 8 → f_G_leastFault_18 u b0 n i x9 = Fr → JJ p l e R s m args below meth c 0 0 5 D clA (cW z a) A Q 18 [(4, .int (nI i)), (3, .int x9), (0, .ref (a 3)), (1, .ref (a 4)), (2, .int b0)] u [] := by
  have C := B.1
  intro n
  induction n with
  | zero =>
    intro i x9 hin hE
    obtain rfl : i = 8 := by omega
    have hge : (8 : Int32) ≤ nI 8 := by decide
    refine j_iload C 0 dX0_leastFault_18 rfl ?_
    refine j_bipush C 8 dX0_leastFault_20 bp_8 ?_
    refine j_icmp_ge C 69 dX0_leastFault_22 (by decide) (fun _ => ?_) (fun hq => absurd hge hq)
    refine j_iload_n C 1 dX0_leastFault_69 rfl ?_
    exact B.2.2 _ _ _ _ dX0_leastFault_70 rfl (congrArg (fun x => (x, u)) hE)
  | succ n ih =>
    intro i x9 hin hE
    have hlt : i < 8 := by omega
    have hnge : ¬ (8 : Int32) ≤ nI i := lt8 i hlt
    refine j_iload C 0 dX0_leastFault_18 rfl ?_
    refine j_bipush C 8 dX0_leastFault_20 bp_8 ?_
    refine j_icmp_ge C 69 dX0_leastFault_22 (by decide) (fun hq => absurd hq hnge) (fun _ => ?_)
    refine j_aload_n C 3 dX0_leastFault_25 rfl ?_
    refine j_iload C 0 dX0_leastFault_26 rfl ?_
    refine j_iald C 4 0 pl_lights rfl i rfl hlt (by decide) dX0_leastFault_28 ?_
    refine j_if_ne C 45 dX0_leastFault_29 (by decide) (fun c1 => ?_) (fun c1 => ?_)
    · have hE := (if_neg c1).symm.trans hE
      refine j_aload_n C 3 dX0_leastFault_45 rfl ?_
      refine j_iload C 0 dX0_leastFault_46 rfl ?_
      refine j_iald C 4 0 pl_lights rfl i rfl hlt (by decide) dX0_leastFault_48 ?_
      refine j_if_ne C 63 dX0_leastFault_49 (by decide) (fun c2 => ?_) (fun c2 => ?_)
      · have hE := (if_neg c2).symm.trans hE
        refine j_iinc C 0 (nI (i + 1)) dX0_leastFault_63 rfl (nI_1 _) (by decide) rfl ?_
        refine j_goto C 18 dX0_leastFault_66 (by decide) ?_
        exact ih (i + 1) x9 (by omega) hE
      · have hE := (if_pos c2).symm.trans hE
        refine j_aload_n C 2 dX0_leastFault_52 rfl ?_
        refine j_iload C 0 dX0_leastFault_53 rfl ?_
        refine j_cIV C B.2.1 (c_G_hadShortYellow l D z a u i hlt) gv_0_34 dd_G_hadShortYellow ⟨⟨rfl, rfl⟩, Nat.le_of_ble_eq_true rfl, Nat.le_of_ble_eq_true rfl⟩ 3 0 pl_guard rfl rfl rfl rfl (Nat.le_of_ble_eq_true rfl) dX0_leastFault_55 ?_
        refine j_if_eq C 63 dX0_leastFault_58 (by decide) (fun c3 => ?_) (fun c3 => ?_)
        · have hE := (if_pos c3).symm.trans hE
          refine j_iinc C 0 (nI (i + 1)) dX0_leastFault_63 rfl (nI_1 _) (by decide) rfl ?_
          refine j_goto C 18 dX0_leastFault_66 (by decide) ?_
          exact ih (i + 1) x9 (by omega) hE
        · have hE := (if_neg c3).symm.trans hE
          refine j_iconst C 3 dX0_leastFault_61 ic_3 ?_
          refine j_istore_n C dX0_leastFault_62 (by decide) rfl ?_
          refine j_iinc C 1 (nI (i + 1)) dX0_leastFault_63 rfl (nI_1 _) (by decide) rfl ?_
          refine j_goto C 18 dX0_leastFault_66 (by decide) ?_
          exact ih (i + 1) (3 : Int32) (by omega) hE
    · have hE := (if_pos c1).symm.trans hE
      refine j_aload_n C 2 dX0_leastFault_32 rfl ?_
      refine j_get C kf_0 3 pl_guard 0 (by decide) lk_0_9 rfl dX0_leastFault_33 ?_
      refine j_iload C 0 dX0_leastFault_36 rfl ?_
      refine j_iald C 5 0 pl_last rfl i rfl hlt (by decide) dX0_leastFault_38 ?_
      refine j_iconst C 2 dX0_leastFault_39 ic_2 ?_
      refine j_icmp_ne C 45 dX0_leastFault_40 (by decide) (fun c4 => ?_) (fun c4 => ?_)
      · have hE := (if_neg c4).symm.trans hE
        refine j_aload_n C 3 dX0_leastFault_45 rfl ?_
        refine j_iload C 0 dX0_leastFault_46 rfl ?_
        refine j_iald C 4 0 pl_lights rfl i rfl hlt (by decide) dX0_leastFault_48 ?_
        refine j_if_ne C 63 dX0_leastFault_49 (by decide) (fun c5 => ?_) (fun c5 => ?_)
        · have hE := (if_neg c5).symm.trans hE
          refine j_iinc C 0 (nI (i + 1)) dX0_leastFault_63 rfl (nI_1 _) (by decide) rfl ?_
          refine j_goto C 18 dX0_leastFault_66 (by decide) ?_
          exact ih (i + 1) x9 (by omega) hE
        · have hE := (if_pos c5).symm.trans hE
          refine j_aload_n C 2 dX0_leastFault_52 rfl ?_
          refine j_iload C 0 dX0_leastFault_53 rfl ?_
          refine j_cIV C B.2.1 (c_G_hadShortYellow l D z a u i hlt) gv_0_34 dd_G_hadShortYellow ⟨⟨rfl, rfl⟩, Nat.le_of_ble_eq_true rfl, Nat.le_of_ble_eq_true rfl⟩ 3 0 pl_guard rfl rfl rfl rfl (Nat.le_of_ble_eq_true rfl) dX0_leastFault_55 ?_
          refine j_if_eq C 63 dX0_leastFault_58 (by decide) (fun c6 => ?_) (fun c6 => ?_)
          · have hE := (if_pos c6).symm.trans hE
            refine j_iinc C 0 (nI (i + 1)) dX0_leastFault_63 rfl (nI_1 _) (by decide) rfl ?_
            refine j_goto C 18 dX0_leastFault_66 (by decide) ?_
            exact ih (i + 1) x9 (by omega) hE
          · have hE := (if_neg c6).symm.trans hE
            refine j_iconst C 3 dX0_leastFault_61 ic_3 ?_
            refine j_istore_n C dX0_leastFault_62 (by decide) rfl ?_
            refine j_iinc C 1 (nI (i + 1)) dX0_leastFault_63 rfl (nI_1 _) (by decide) rfl ?_
            refine j_goto C 18 dX0_leastFault_66 (by decide) ?_
            exact ih (i + 1) (3 : Int32) (by omega) hE
      · have hE := (if_pos c4).symm.trans hE
        refine j_iconst C 2 dX0_leastFault_43 ic_2 ?_
        exact B.2.2 _ _ _ _ dX0_leastFault_44 rfl (congrArg (fun x => (x, u)) hE)
def f_G_leastFault (u : St) (b0 : Int32) : Int32 := (if b0 = (0 : Int32) then (f_G_leastFault_18 u b0 8 0 (0 : Int32)) else (if (u 1 1) = (0 : Int32) then (f_G_leastFault_18 u b0 8 0 (0 : Int32)) else (1 : Int32)))
set_option maxRecDepth 20000 in
set_option maxHeartbeats 1000000 in
theorem w_G_leastFault_0 {Fr : Int32} {u : St} (B : jk_BI p l e R s m args below meth c cX0_leastFault 5 RX0 TT .int D clA (tyl z) (cW z a) A Q rm_G_leastFault (Fr, u)) (b0 : Int32) (hE : f_G_leastFault u b0 = Fr) : JJ p l e R s m args below meth c 0 0 5 D clA (cW z a) A Q 0 [(0, .ref (a 3)), (1, .ref (a 4)), (2, .int b0)] u [] := by
  have C := B.1
  unfold f_G_leastFault at hE
  refine j_iload_n C 2 dX0_leastFault_0 rfl ?_
  refine j_if_eq C 13 dX0_leastFault_1 (by decide) (fun c1 => ?_) (fun c1 => ?_)
  · have hE := (if_pos c1).symm.trans hE
    refine j_iconst C 0 dX0_leastFault_13 ic_0 ?_
    refine j_istore_n C dX0_leastFault_14 (by decide) rfl ?_
    refine j_iconst C 0 dX0_leastFault_15 ic_0 ?_
    refine j_istore C dX0_leastFault_16 (by decide) rfl ?_
    refine j_lq (congrArg (fun x => ([(4, .int x), (3, .int 0), (0, .ref (a 3)), (1, .ref (a 4)), (2, .int b0)] : List (Nat × Value))) ix_0) ?_
    exact w_G_leastFault_18 B b0 8 0 (0 : Int32) (by omega) hE
  · have hE := (if_neg c1).symm.trans hE
    refine j_aload_n C 0 dX0_leastFault_4 rfl ?_
    refine j_get C kf_0 3 pl_guard 2 (by decide) lk_0_18 rfl dX0_leastFault_5 ?_
    refine j_if_eq C 13 dX0_leastFault_8 (by decide) (fun c2 => ?_) (fun c2 => ?_)
    · have hE := (if_pos c2).symm.trans hE
      refine j_iconst C 0 dX0_leastFault_13 ic_0 ?_
      refine j_istore_n C dX0_leastFault_14 (by decide) rfl ?_
      refine j_iconst C 0 dX0_leastFault_15 ic_0 ?_
      refine j_istore C dX0_leastFault_16 (by decide) rfl ?_
      refine j_lq (congrArg (fun x => ([(4, .int x), (3, .int 0), (0, .ref (a 3)), (1, .ref (a 4)), (2, .int b0)] : List (Nat × Value))) ix_0) ?_
      exact w_G_leastFault_18 B b0 8 0 (0 : Int32) (by omega) hE
    · have hE := (if_neg c2).symm.trans hE
      refine j_iconst C 1 dX0_leastFault_11 ic_1 ?_
      exact B.2.2 _ _ _ _ dX0_leastFault_12 rfl (congrArg (fun x => (x, u)) hE)
theorem c_G_leastFault (l : Launch) (D : va_G) (z : Nat → ClassId) (a : Nat → Nat) (u : St) (b0 : Int32) : CtI l yX0_leastFault (.code yX0_leastFault cX0_leastFault 5 (some .int) :: TT) rm_G_leastFault D clA (tyl z) (cW z a) [.ref (a 3), .ref (a 4), .int b0] u (f_G_leastFault u b0) u :=
  jk_metI (own := RX0) (by decide) rfl (Nat.le_of_ble_eq_true rfl) (fun _ _ _ _ _ _ _ _ _ _ _ B => w_G_leastFault_0 B b0 rfl)
end WLK
end
section
section WLK
variable {p : Program} {l : Launch} {e : Env} {R : Room} {s : State} {m : MethodId} {args : Array Value} {below : List Frame} {meth : Method} {c : Code} {D : va_G} {z : Nat → ClassId} {a : Nat → Nat} {A : Nat → Prop} {Q : State → Prop}
def rm_G_look : Room := { frames := 3, cells := 0, slots := 0, locals := 63 }
def f_G_look_22  : Nat → Nat → St → St
  | 0, i, u => u
  | n + 1, i, u => (if ((up2 u 3 i (u 2 i)) 2 i) = (1 : Int32) then (f_G_look_22 n (i + 1) (up2 (up2 u 3 i (u 2 i)) 4 i (((up2 u 3 i (u 2 i)) 4 i) + (1 : Int32)))) else (f_G_look_22 n (i + 1) (up2 (up2 u 3 i (u 2 i)) 4 i (0 : Int32))))
set_option maxRecDepth 20000 in
set_option maxHeartbeats 1000000 in
theorem w_G_look_22 {F : St} (B : jk_BV p l e R s m args below meth c cX0_look 4 RX0 TT D clA (tyl z) (cW z a) A Q rm_G_look F)  : ∀ (n i : Nat) (u : St), i + n = 8 → f_G_look_22 n i u = F → JJ p l e R s m args below meth c 0 0 4 D clA (cW z a) A Q 22 [(3, .int (nI i)), (0, .ref (a 3)), (1, .ref (a 4))] u [] := by
  have C := B.1
  intro n
  induction n with
  | zero =>
    intro i u hin hE
    obtain rfl : i = 8 := by omega
    have hge : (8 : Int32) ≤ nI 8 := by decide
    refine j_iload_n C 0 dX0_look_22 rfl ?_
    refine j_bipush C 8 dX0_look_23 bp_8 ?_
    refine j_icmp_ge C 68 dX0_look_25 (by decide) (fun _ => ?_) (fun hq => absurd hge hq)
    exact B.2.2 _ _ _ dX0_look_68 hE
  | succ n ih =>
    intro i u hin hE
    have hlt : i < 8 := by omega
    have hnge : ¬ (8 : Int32) ≤ nI i := lt8 i hlt
    refine j_iload_n C 0 dX0_look_22 rfl ?_
    refine j_bipush C 8 dX0_look_23 bp_8 ?_
    refine j_icmp_ge C 68 dX0_look_25 (by decide) (fun hq => absurd hq hnge) (fun _ => ?_)
    refine j_aload_n C 1 dX0_look_28 rfl ?_
    refine j_get C kf_0 3 pl_guard 0 (by decide) lk_0_9 rfl dX0_look_29 ?_
    refine j_iload_n C 0 dX0_look_32 rfl ?_
    refine j_aload_n C 2 dX0_look_33 rfl ?_
    refine j_iload_n C 0 dX0_look_34 rfl ?_
    refine j_iald C 4 0 pl_lights rfl i rfl hlt (by decide) dX0_look_35 ?_
    refine j_iast C 5 0 pl_last rfl i rfl hlt (by decide) pu_last dX0_look_36 ?_
    refine j_aload_n C 1 dX0_look_37 rfl ?_
    refine j_get C kf_0 3 pl_guard 1 (by decide) lk_0_15 rfl dX0_look_38 ?_
    refine j_iload_n C 0 dX0_look_41 rfl ?_
    refine j_aload_n C 2 dX0_look_42 rfl ?_
    refine j_iload_n C 0 dX0_look_43 rfl ?_
    refine j_iald C 4 0 pl_lights rfl i rfl hlt (by decide) dX0_look_44 ?_
    refine j_iconst C 1 dX0_look_45 ic_1 ?_
    refine j_icmp_ne C 60 dX0_look_46 (by decide) (fun c1 => ?_) (fun c1 => ?_)
    · have hE := (if_neg c1).symm.trans hE
      refine j_iconst C 0 dX0_look_60 ic_0 ?_
      refine j_iast C 6 0 pl_yel rfl i rfl hlt (by decide) pu_yel dX0_look_61 ?_
      refine j_iinc C 0 (nI (i + 1)) dX0_look_62 rfl (nI_1 _) (by decide) rfl ?_
      refine j_goto C 22 dX0_look_65 (by decide) ?_
      exact ih (i + 1) (up2 (up2 u 3 i (u 2 i)) 4 i (0 : Int32)) (by omega) hE
    · have hE := (if_pos c1).symm.trans hE
      refine j_aload_n C 1 dX0_look_49 rfl ?_
      refine j_get C kf_0 3 pl_guard 1 (by decide) lk_0_15 rfl dX0_look_50 ?_
      refine j_iload_n C 0 dX0_look_53 rfl ?_
      refine j_iald C 6 0 pl_yel rfl i rfl hlt (by decide) dX0_look_54 ?_
      refine j_iconst C 1 dX0_look_55 ic_1 ?_
      refine j_iadd C dX0_look_56 ?_
      refine j_goto C 61 dX0_look_57 (by decide) ?_
      refine j_iast C 6 0 pl_yel rfl i rfl hlt (by decide) pu_yel dX0_look_61 ?_
      refine j_iinc C 0 (nI (i + 1)) dX0_look_62 rfl (nI_1 _) (by decide) rfl ?_
      refine j_goto C 22 dX0_look_65 (by decide) ?_
      exact ih (i + 1) (up2 (up2 u 3 i (u 2 i)) 4 i (((up2 u 3 i (u 2 i)) 4 i) + (1 : Int32))) (by omega) hE
def f_G_look (u : St)  : St := (f_G_look_22 8 0 (up2 (up2 u 1 0 (f_G_leastFault u (f_anyInTheWay u))) 1 1 (f_anyInTheWay u)))
def g_G_look (u : St)  : Prop := ((f_anyInTheWay u) = 0 ∨ (f_anyInTheWay u) = 1)
set_option maxRecDepth 20000 in
set_option maxHeartbeats 1000000 in
theorem w_G_look_0 {F : St} {u : St} (B : jk_BV p l e R s m args below meth c cX0_look 4 RX0 TT D clA (tyl z) (cW z a) A Q rm_G_look F)  (hE : f_G_look u = F) (hG : g_G_look u) : JJ p l e R s m args below meth c 0 0 4 D clA (cW z a) A Q 0 [(0, .ref (a 3)), (1, .ref (a 4))] u [] := by
  have C := B.1
  unfold f_G_look at hE
  unfold g_G_look at hG
  refine j_aload_n C 1 dX0_look_0 rfl ?_
  refine j_cISN C B.2.1 (c_anyInTheWay l D z a u) gc_anyInTheWay (fun h => h.1) ini_anyInTheWay sta_anyInTheWay dd_anyInTheWay ⟨⟨rfl, rfl⟩, Nat.le_of_ble_eq_true rfl, Nat.le_of_ble_eq_true rfl⟩ rfl rfl (Nat.le_of_ble_eq_true rfl) dX0_look_1 ?_
  refine j_istore_n C dX0_look_4 (by decide) rfl ?_
  refine j_aload_n C 1 dX0_look_5 rfl ?_
  refine j_aload_n C 1 dX0_look_6 rfl ?_
  refine j_aload_n C 2 dX0_look_7 rfl ?_
  refine j_iload_n C 0 dX0_look_8 rfl ?_
  refine j_cIV C B.2.1 (c_G_leastFault l D z a u (f_anyInTheWay u)) gv_0_30 dd_G_leastFault ⟨⟨rfl, rfl⟩, Nat.le_of_ble_eq_true rfl, Nat.le_of_ble_eq_true rfl⟩ 3 0 pl_guard rfl rfl rfl rfl (Nat.le_of_ble_eq_true rfl) dX0_look_9 ?_
  refine j_put C kf_0 3 pl_guard 3 (by decide) lk_0_22 rfl rfl rfl (Nat.le_of_ble_eq_true rfl) pu_guard_fault dX0_look_12 ?_
  refine j_aload_n C 1 dX0_look_15 rfl ?_
  refine j_iload_n C 0 dX0_look_16 rfl ?_
  have hb1 := hG
  refine j_put C kf_0 3 pl_guard 2 (by decide) lk_0_18 rfl (jk_nb hb1) (jk_fb hb1) (Nat.le_of_ble_eq_true rfl) pu_guard_wayWasBlocked dX0_look_17 ?_
  refine j_iconst C 0 dX0_look_20 ic_0 ?_
  refine j_istore_n C dX0_look_21 (by decide) rfl ?_
  refine j_lv [0, 2, 3] rfl ?_
  refine j_lq (congrArg (fun x => ([(3, .int x), (0, .ref (a 3)), (1, .ref (a 4))] : List (Nat × Value))) ix_0) ?_
  exact w_G_look_22 B 8 0 (up2 (up2 u 1 0 (f_G_leastFault u (f_anyInTheWay u))) 1 1 (f_anyInTheWay u)) (by omega) hE
theorem c_G_look (l : Launch) (D : va_G) (z : Nat → ClassId) (a : Nat → Nat) (u : St)  (hG : g_G_look u) : CtV l yX0_look (.code yX0_look cX0_look 4 none :: TT) rm_G_look D clA (tyl z) (cW z a) [.ref (a 3), .ref (a 4)] u (f_G_look u) :=
  jk_metV (own := RX0) (by decide) rfl (Nat.le_of_ble_eq_true rfl) (fun _ _ _ _ _ _ _ _ _ _ _ B => w_G_look_0 B rfl hG)
def rm_G_forget : Room := { frames := 0, cells := 0, slots := 0, locals := 0 }
def f_G_forget_2  : Nat → Nat → St → St
  | 0, i, u => (up2 (up2 u 1 1 (0 : Int32)) 1 0 (0 : Int32))
  | n + 1, i, u => (f_G_forget_2 n (i + 1) (up2 (up2 u 3 i (0 : Int32)) 4 i (0 : Int32)))
set_option maxRecDepth 20000 in
set_option maxHeartbeats 1000000 in
theorem w_G_forget_2 {F : St} (B : jk_BV p l e R s m args below meth c cX0_forget 2 RX0 TT D clA (tyl z) (cW z a) A Q rm_G_forget F)  : ∀ (n i : Nat) (u : St), i + n = 8 → f_G_forget_2 n i u = F → JJ p l e R s m args below meth c 0 0 2 D clA (cW z a) A Q 2 [(1, .int (nI i)), (0, .ref (a 3))] u [] := by
  have C := B.1
  intro n
  induction n with
  | zero =>
    intro i u hin hE
    obtain rfl : i = 8 := by omega
    have hge : (8 : Int32) ≤ nI 8 := by decide
    refine j_iload_n C 0 dX0_forget_2 rfl ?_
    refine j_bipush C 8 dX0_forget_3 bp_8 ?_
    refine j_icmp_ge C 28 dX0_forget_5 (by decide) (fun _ => ?_) (fun hq => absurd hge hq)
    refine j_aload_n C 1 dX0_forget_28 rfl ?_
    refine j_iconst C 0 dX0_forget_29 ic_0 ?_
    refine j_put C kf_0 3 pl_guard 2 (by decide) lk_0_18 rfl rfl rfl (Nat.le_of_ble_eq_true rfl) pu_guard_wayWasBlocked dX0_forget_30 ?_
    refine j_aload_n C 1 dX0_forget_33 rfl ?_
    refine j_iconst C 0 dX0_forget_34 ic_0 ?_
    refine j_put C kf_0 3 pl_guard 3 (by decide) lk_0_22 rfl rfl rfl (Nat.le_of_ble_eq_true rfl) pu_guard_fault dX0_forget_35 ?_
    exact B.2.2 _ _ _ dX0_forget_38 hE
  | succ n ih =>
    intro i u hin hE
    have hlt : i < 8 := by omega
    have hnge : ¬ (8 : Int32) ≤ nI i := lt8 i hlt
    refine j_iload_n C 0 dX0_forget_2 rfl ?_
    refine j_bipush C 8 dX0_forget_3 bp_8 ?_
    refine j_icmp_ge C 28 dX0_forget_5 (by decide) (fun hq => absurd hq hnge) (fun _ => ?_)
    refine j_aload_n C 1 dX0_forget_8 rfl ?_
    refine j_get C kf_0 3 pl_guard 0 (by decide) lk_0_9 rfl dX0_forget_9 ?_
    refine j_iload_n C 0 dX0_forget_12 rfl ?_
    refine j_iconst C 0 dX0_forget_13 ic_0 ?_
    refine j_iast C 5 0 pl_last rfl i rfl hlt (by decide) pu_last dX0_forget_14 ?_
    refine j_aload_n C 1 dX0_forget_15 rfl ?_
    refine j_get C kf_0 3 pl_guard 1 (by decide) lk_0_15 rfl dX0_forget_16 ?_
    refine j_iload_n C 0 dX0_forget_19 rfl ?_
    refine j_iconst C 0 dX0_forget_20 ic_0 ?_
    refine j_iast C 6 0 pl_yel rfl i rfl hlt (by decide) pu_yel dX0_forget_21 ?_
    refine j_iinc C 0 (nI (i + 1)) dX0_forget_22 rfl (nI_1 _) (by decide) rfl ?_
    refine j_goto C 2 dX0_forget_25 (by decide) ?_
    exact ih (i + 1) (up2 (up2 u 3 i (0 : Int32)) 4 i (0 : Int32)) (by omega) hE
def f_G_forget (u : St)  : St := (f_G_forget_2 8 0 u)
set_option maxRecDepth 20000 in
set_option maxHeartbeats 1000000 in
theorem w_G_forget_0 {F : St} {u : St} (B : jk_BV p l e R s m args below meth c cX0_forget 2 RX0 TT D clA (tyl z) (cW z a) A Q rm_G_forget F)  (hE : f_G_forget u = F) : JJ p l e R s m args below meth c 0 0 2 D clA (cW z a) A Q 0 [(0, .ref (a 3))] u [] := by
  have C := B.1
  unfold f_G_forget at hE
  refine j_iconst C 0 dX0_forget_0 ic_0 ?_
  refine j_istore_n C dX0_forget_1 (by decide) rfl ?_
  refine j_lq (congrArg (fun x => ([(1, .int x), (0, .ref (a 3))] : List (Nat × Value))) ix_0) ?_
  exact w_G_forget_2 B 8 0 u (by omega) hE
theorem c_G_forget (l : Launch) (D : va_G) (z : Nat → ClassId) (a : Nat → Nat) (u : St)  : CtV l yX0_forget (.code yX0_forget cX0_forget 2 none :: TT) rm_G_forget D clA (tyl z) (cW z a) [.ref (a 3)] u (f_G_forget u) :=
  jk_metV (own := RX0) (by decide) rfl (Nat.le_of_ble_eq_true rfl) (fun _ _ _ _ _ _ _ _ _ _ _ B => w_G_forget_0 B rfl)
def rm_isGreen : Room := { frames := 1, cells := 0, slots := 0, locals := 20 }
def f_isGreen (u : St) (k0 : Nat) : Int32 := (if (u 30 (k0 / 4)) = (nI k0) then (if (u 31 (k0 / 4)) = (1 : Int32) then (1 : Int32) else (0 : Int32)) else (0 : Int32))
set_option maxRecDepth 20000 in
set_option maxHeartbeats 1000000 in
theorem w_isGreen_0 {Fr : Int32} {u : St} (B : jk_BI p l e R s m args below meth c cX3_isGreen 3 RX3 TT .boolean D clA (tyl z) (cW z a) A Q rm_isGreen (Fr, u)) {k0 : Nat} (hk0 : k0 < 8) (hE : f_isGreen u k0 = Fr) : JJ p l e R s m args below meth c 0 0 3 D clA (cW z a) A Q 0 [(0, .ref (a 0)), (1, .int (nI k0))] u [] := by
  have C := B.1
  unfold f_isGreen at hE
  refine j_aload_n C 0 dX3_isGreen_0 rfl ?_
  refine j_get C kf_3 0 pl_desk 1 (by decide) lk_3_18 rfl dX3_isGreen_1 ?_
  refine j_iload_n C 1 dX3_isGreen_4 rfl ?_
  refine j_cIS C B.2.1 (c_ringOf l D z a u k0 hk0) gv_3_115 dd_ringOf ⟨⟨rfl, rfl⟩, Nat.le_of_ble_eq_true rfl, Nat.le_of_ble_eq_true rfl⟩ rfl rfl (Nat.le_of_ble_eq_true rfl) dX3_isGreen_5 ?_
  refine j_aald C 2 3 pl_rgs rfl (k0 / 4) rfl (by omega) (by decide) rfl dX3_isGreen_8 ?_
  refine j_astore_n C dX3_isGreen_9 (by decide) rfl ?_
  refine j_aload_n C 0 dX3_isGreen_10 rfl ?_
  refine j_get C kf_2 (23 + (k0 / 4)) (pl_rg (by omega)) 2 (by decide) lk_3_137 rfl dX3_isGreen_11 ?_
  refine j_iload_n C 2 dX3_isGreen_14 rfl ?_
  refine j_icmp_ne C 30 dX3_isGreen_15 (by decide) (fun c1 => ?_) (fun c1 => ?_)
  · have hE := (if_neg c1).symm.trans hE
    refine j_iconst C 0 dX3_isGreen_30 ic_0 ?_
    exact B.2.2 _ _ _ _ dX3_isGreen_31 rfl (congrArg (fun x => (x, u)) hE)
  · have hE := (if_pos c1).symm.trans hE
    refine j_aload_n C 0 dX3_isGreen_18 rfl ?_
    refine j_get C kf_2 (23 + (k0 / 4)) (pl_rg (by omega)) 3 (by decide) lk_3_140 rfl dX3_isGreen_19 ?_
    refine j_iconst C 1 dX3_isGreen_22 ic_1 ?_
    refine j_icmp_ne C 30 dX3_isGreen_23 (by decide) (fun c2 => ?_) (fun c2 => ?_)
    · have hE := (if_neg c2).symm.trans hE
      refine j_iconst C 0 dX3_isGreen_30 ic_0 ?_
      exact B.2.2 _ _ _ _ dX3_isGreen_31 rfl (congrArg (fun x => (x, u)) hE)
    · have hE := (if_pos c2).symm.trans hE
      refine j_iconst C 1 dX3_isGreen_26 ic_1 ?_
      refine j_goto C 31 dX3_isGreen_27 (by decide) ?_
      exact B.2.2 _ _ _ _ dX3_isGreen_31 rfl (congrArg (fun x => (x, u)) hE)
theorem c_isGreen (l : Launch) (D : va_G) (z : Nat → ClassId) (a : Nat → Nat) (u : St) (k0 : Nat) (hk0 : k0 < 8) : CtI l yX3_isGreen (.code yX3_isGreen cX3_isGreen 3 (some .boolean) :: TT) rm_isGreen D clA (tyl z) (cW z a) [.ref (a 0), .int (nI k0)] u (f_isGreen u k0) u :=
  jk_metI (own := RX3) (by decide) rfl (Nat.le_of_ble_eq_true rfl) (fun _ _ _ _ _ _ _ _ _ _ _ B => w_isGreen_0 B hk0 rfl)
def rm_isCalled : Room := { frames := 2, cells := 0, slots := 0, locals := 42 }
def f_isCalled (u : St) (k0 : Nat) : Int32 := (if (f_M_isWanted u k0) = (0 : Int32) then (0 : Int32) else (if (f_isGreen u k0) = (0 : Int32) then (1 : Int32) else (0 : Int32)))
set_option maxRecDepth 20000 in
set_option maxHeartbeats 1000000 in
theorem w_isCalled_0 {Fr : Int32} {u : St} (B : jk_BI p l e R s m args below meth c cX3_isCalled 2 RX3 TT .boolean D clA (tyl z) (cW z a) A Q rm_isCalled (Fr, u)) {k0 : Nat} (hk0 : k0 < 8) (hE : f_isCalled u k0 = Fr) : JJ p l e R s m args below meth c 0 0 2 D clA (cW z a) A Q 0 [(0, .ref (a 0)), (1, .int (nI k0))] u [] := by
  have C := B.1
  unfold f_isCalled at hE
  refine j_aload_n C 0 dX3_isCalled_0 rfl ?_
  refine j_get C kf_3 0 pl_desk 0 (by decide) lk_3_11 rfl dX3_isCalled_1 ?_
  refine j_iload_n C 1 dX3_isCalled_4 rfl ?_
  refine j_aald C 1 2 pl_mvs rfl k0 rfl hk0 (by decide) rfl dX3_isCalled_5 ?_
  refine j_cIV C B.2.1 (c_M_isWanted l D z a u k0 hk0) gv_3_246 dd_M_isWanted ⟨⟨rfl, rfl⟩, Nat.le_of_ble_eq_true rfl, Nat.le_of_ble_eq_true rfl⟩ (7 + k0) 1 (pl_mv hk0) rfl rfl rfl rfl (Nat.le_of_ble_eq_true rfl) dX3_isCalled_6 ?_
  refine j_if_eq C 24 dX3_isCalled_9 (by decide) (fun c1 => ?_) (fun c1 => ?_)
  · have hE := (if_pos c1).symm.trans hE
    refine j_iconst C 0 dX3_isCalled_24 ic_0 ?_
    exact B.2.2 _ _ _ _ dX3_isCalled_25 rfl (congrArg (fun x => (x, u)) hE)
  · have hE := (if_neg c1).symm.trans hE
    refine j_aload_n C 0 dX3_isCalled_12 rfl ?_
    refine j_iload_n C 1 dX3_isCalled_13 rfl ?_
    refine j_cIV C B.2.1 (c_isGreen l D z a u k0 hk0) gv_3_77 dd_isGreen ⟨⟨rfl, rfl⟩, Nat.le_of_ble_eq_true rfl, Nat.le_of_ble_eq_true rfl⟩ 0 3 pl_desk rfl rfl rfl rfl (Nat.le_of_ble_eq_true rfl) dX3_isCalled_14 ?_
    refine j_if_ne C 24 dX3_isCalled_17 (by decide) (fun c2 => ?_) (fun c2 => ?_)
    · have hE := (if_neg c2).symm.trans hE
      refine j_iconst C 0 dX3_isCalled_24 ic_0 ?_
      exact B.2.2 _ _ _ _ dX3_isCalled_25 rfl (congrArg (fun x => (x, u)) hE)
    · have hE := (if_pos c2).symm.trans hE
      refine j_iconst C 1 dX3_isCalled_20 ic_1 ?_
      refine j_goto C 25 dX3_isCalled_21 (by decide) ?_
      exact B.2.2 _ _ _ _ dX3_isCalled_25 rfl (congrArg (fun x => (x, u)) hE)
theorem c_isCalled (l : Launch) (D : va_G) (z : Nat → ClassId) (a : Nat → Nat) (u : St) (k0 : Nat) (hk0 : k0 < 8) : CtI l yX3_isCalled (.code yX3_isCalled cX3_isCalled 2 (some .boolean) :: TT) rm_isCalled D clA (tyl z) (cW z a) [.ref (a 0), .int (nI k0)] u (f_isCalled u k0) u :=
  jk_metI (own := RX3) (by decide) rfl (Nat.le_of_ble_eq_true rfl) (fun _ _ _ _ _ _ _ _ _ _ _ B => w_isCalled_0 B hk0 rfl)
def rm_mayEnd : Room := { frames := 2, cells := 0, slots := 0, locals := 42 }
def f_mayEnd (u : St) (r : Nat) : Int32 := (if (u 31 r) = (1 : Int32) then (if (f_R_mayEndGreen u r ((u 30 r).toNatClampNeg)) = (0 : Int32) then (0 : Int32) else (1 : Int32)) else (0 : Int32))
def g_mayEnd (u : St) (r : Nat) : Prop := (((u 31 r) = (1 : Int32) → (vp_in (u 30 r) 8)) ∧ (¬ (u 31 r) = (1 : Int32) → True))
set_option maxRecDepth 20000 in
set_option maxHeartbeats 1000000 in
theorem w_mayEnd_0 {Fr : Int32} {u : St} (B : jk_BI p l e R s m args below meth c cX3_mayEnd 2 RX3 TT .boolean D clA (tyl z) (cW z a) A Q rm_mayEnd (Fr, u)) {r : Nat} (hr : r < 2) (hE : f_mayEnd u r = Fr) (hG : g_mayEnd u r) : JJ p l e R s m args below meth c 0 0 2 D clA (cW z a) A Q 0 [(0, .ref (a 0)), (1, .ref (a (23 + r)))] u [] := by
  have C := B.1
  unfold f_mayEnd at hE
  unfold g_mayEnd at hG
  refine j_aload_n C 1 dX3_mayEnd_0 rfl ?_
  refine j_get C kf_2 (23 + r) (pl_rg hr) 3 (by decide) lk_3_140 rfl dX3_mayEnd_1 ?_
  refine j_iconst C 1 dX3_mayEnd_4 ic_1 ?_
  refine j_icmp_ne C 31 dX3_mayEnd_5 (by decide) (fun c1 => ?_) (fun c1 => ?_)
  · have hE := (if_neg c1).symm.trans hE
    refine j_iconst C 0 dX3_mayEnd_31 ic_0 ?_
    exact B.2.2 _ _ _ _ dX3_mayEnd_32 rfl (congrArg (fun x => (x, u)) hE)
  · have hE := (if_pos c1).symm.trans hE
    have hG := hG.1 c1
    refine j_aload_n C 1 dX3_mayEnd_8 rfl ?_
    refine j_aload_n C 0 dX3_mayEnd_9 rfl ?_
    refine j_get C kf_3 0 pl_desk 0 (by decide) lk_3_11 rfl dX3_mayEnd_10 ?_
    refine j_aload_n C 1 dX3_mayEnd_13 rfl ?_
    refine j_get C kf_2 (23 + r) (pl_rg hr) 2 (by decide) lk_3_137 rfl dX3_mayEnd_14 ?_
    have hv2 := hG
    have lhv2 := jk_lt hv2
    refine j_aald C 1 2 pl_mvs rfl ((u 30 r).toNatClampNeg) (jk_self hv2 (by decide)) (jk_lt hv2) (by decide) rfl dX3_mayEnd_17 ?_
    refine j_get C kf_1 (7 + ((u 30 r).toNatClampNeg)) (pl_mv (jk_lt hv2)) 0 (by decide) lk_3_46 rfl dX3_mayEnd_18 ?_
    refine j_cIV C B.2.1 (c_R_mayEndGreen l D z a u r ((u 30 r).toNatClampNeg) hr (jk_lt hv2)) gv_3_249 dd_R_mayEndGreen ⟨⟨rfl, rfl⟩, Nat.le_of_ble_eq_true rfl, Nat.le_of_ble_eq_true rfl⟩ (23 + r) 2 (pl_rg hr) rfl rfl rfl rfl (Nat.le_of_ble_eq_true rfl) dX3_mayEnd_21 ?_
    refine j_if_eq C 31 dX3_mayEnd_24 (by decide) (fun c3 => ?_) (fun c3 => ?_)
    · have hE := (if_pos c3).symm.trans hE
      refine j_iconst C 0 dX3_mayEnd_31 ic_0 ?_
      exact B.2.2 _ _ _ _ dX3_mayEnd_32 rfl (congrArg (fun x => (x, u)) hE)
    · have hE := (if_neg c3).symm.trans hE
      refine j_iconst C 1 dX3_mayEnd_27 ic_1 ?_
      refine j_goto C 32 dX3_mayEnd_28 (by decide) ?_
      exact B.2.2 _ _ _ _ dX3_mayEnd_32 rfl (congrArg (fun x => (x, u)) hE)
theorem c_mayEnd (l : Launch) (D : va_G) (z : Nat → ClassId) (a : Nat → Nat) (u : St) (r : Nat) (hr : r < 2) (hG : g_mayEnd u r) : CtI l yX3_mayEnd (.code yX3_mayEnd cX3_mayEnd 2 (some .boolean) :: TT) rm_mayEnd D clA (tyl z) (cW z a) [.ref (a 0), .ref (a (23 + r))] u (f_mayEnd u r) u :=
  jk_metI (own := RX3) (by decide) rfl (Nat.le_of_ble_eq_true rfl) (fun _ _ _ _ _ _ _ _ _ _ _ B => w_mayEnd_0 B hr rfl hG)
def rm_isIdle : Room := { frames := 0, cells := 0, slots := 0, locals := 0 }
def f_isIdle (u : St) (r : Nat) : Int32 := (if (u 31 r) = (0 : Int32) then (if (u 35 r) = (-1 : Int32) then (1 : Int32) else (0 : Int32)) else (0 : Int32))
set_option maxRecDepth 20000 in
set_option maxHeartbeats 1000000 in
theorem w_isIdle_0 {Fr : Int32} {u : St} (B : jk_BI p l e R s m args below meth c cX3_isIdle 1 RX3 TT .boolean D clA (tyl z) (cW z a) A Q rm_isIdle (Fr, u)) {r : Nat} (hr : r < 2) (hE : f_isIdle u r = Fr) : JJ p l e R s m args below meth c 0 0 1 D clA (cW z a) A Q 0 [(0, .ref (a (23 + r)))] u [] := by
  have C := B.1
  unfold f_isIdle at hE
  refine j_aload_n C 0 dX3_isIdle_0 rfl ?_
  refine j_get C kf_2 (23 + r) (pl_rg hr) 3 (by decide) lk_3_140 rfl dX3_isIdle_1 ?_
  refine j_if_ne C 19 dX3_isIdle_4 (by decide) (fun c1 => ?_) (fun c1 => ?_)
  · have hE := (if_neg c1).symm.trans hE
    refine j_iconst C 0 dX3_isIdle_19 ic_0 ?_
    exact B.2.2 _ _ _ _ dX3_isIdle_20 rfl (congrArg (fun x => (x, u)) hE)
  · have hE := (if_pos c1).symm.trans hE
    refine j_aload_n C 0 dX3_isIdle_7 rfl ?_
    refine j_get C kf_2 (23 + r) (pl_rg hr) 7 (by decide) lk_3_100 rfl dX3_isIdle_8 ?_
    refine j_iconst C (-1) dX3_isIdle_11 ic_m1 ?_
    refine j_icmp_ne C 19 dX3_isIdle_12 (by decide) (fun c2 => ?_) (fun c2 => ?_)
    · have hE := (if_neg c2).symm.trans hE
      refine j_iconst C 0 dX3_isIdle_19 ic_0 ?_
      exact B.2.2 _ _ _ _ dX3_isIdle_20 rfl (congrArg (fun x => (x, u)) hE)
    · have hE := (if_pos c2).symm.trans hE
      refine j_iconst C 1 dX3_isIdle_15 ic_1 ?_
      refine j_goto C 20 dX3_isIdle_16 (by decide) ?_
      exact B.2.2 _ _ _ _ dX3_isIdle_20 rfl (congrArg (fun x => (x, u)) hE)
theorem c_isIdle (l : Launch) (D : va_G) (z : Nat → ClassId) (a : Nat → Nat) (u : St) (r : Nat) (hr : r < 2) : CtI l yX3_isIdle (.code yX3_isIdle cX3_isIdle 1 (some .boolean) :: TT) rm_isIdle D clA (tyl z) (cW z a) [.ref (a (23 + r))] u (f_isIdle u r) u :=
  jk_metI (own := RX3) (by decide) rfl (Nat.le_of_ble_eq_true rfl) (fun _ _ _ _ _ _ _ _ _ _ _ B => w_isIdle_0 B hr rfl)
def rm_isReady : Room := { frames := 3, cells := 0, slots := 0, locals := 63 }
def f_isReady (u : St) (r : Nat) : Int32 := (if (f_mayEnd u r) = (0 : Int32) then (if (f_isIdle u r) = (0 : Int32) then (0 : Int32) else (1 : Int32)) else (1 : Int32))
def g_isReady (u : St) (r : Nat) : Prop := (g_mayEnd u r)
set_option maxRecDepth 20000 in
set_option maxHeartbeats 1000000 in
theorem w_isReady_0 {Fr : Int32} {u : St} (B : jk_BI p l e R s m args below meth c cX3_isReady 2 RX3 TT .boolean D clA (tyl z) (cW z a) A Q rm_isReady (Fr, u)) {r : Nat} (hr : r < 2) (hE : f_isReady u r = Fr) (hG : g_isReady u r) : JJ p l e R s m args below meth c 0 0 2 D clA (cW z a) A Q 0 [(0, .ref (a 0)), (1, .ref (a (23 + r)))] u [] := by
  have C := B.1
  unfold f_isReady at hE
  unfold g_isReady at hG
  refine j_aload_n C 0 dX3_isReady_0 rfl ?_
  refine j_aload_n C 1 dX3_isReady_1 rfl ?_
  have hg1 := hG
  refine j_cIV C B.2.1 (c_mayEnd l D z a u r hr hg1) gv_3_152 dd_mayEnd ⟨⟨rfl, rfl⟩, Nat.le_of_ble_eq_true rfl, Nat.le_of_ble_eq_true rfl⟩ 0 3 pl_desk rfl rfl rfl rfl (Nat.le_of_ble_eq_true rfl) dX3_isReady_2 ?_
  refine j_if_ne C 15 dX3_isReady_5 (by decide) (fun c2 => ?_) (fun c2 => ?_)
  · have hE := (if_neg c2).symm.trans hE
    refine j_iconst C 1 dX3_isReady_15 ic_1 ?_
    refine j_goto C 20 dX3_isReady_16 (by decide) ?_
    exact B.2.2 _ _ _ _ dX3_isReady_20 rfl (congrArg (fun x => (x, u)) hE)
  · have hE := (if_pos c2).symm.trans hE
    refine j_aload_n C 1 dX3_isReady_8 rfl ?_
    refine j_cIS C B.2.1 (c_isIdle l D z a u r hr) gv_3_212 dd_isIdle ⟨⟨rfl, rfl⟩, Nat.le_of_ble_eq_true rfl, Nat.le_of_ble_eq_true rfl⟩ rfl rfl (Nat.le_of_ble_eq_true rfl) dX3_isReady_9 ?_
    refine j_if_eq C 19 dX3_isReady_12 (by decide) (fun c3 => ?_) (fun c3 => ?_)
    · have hE := (if_pos c3).symm.trans hE
      refine j_iconst C 0 dX3_isReady_19 ic_0 ?_
      exact B.2.2 _ _ _ _ dX3_isReady_20 rfl (congrArg (fun x => (x, u)) hE)
    · have hE := (if_neg c3).symm.trans hE
      refine j_iconst C 1 dX3_isReady_15 ic_1 ?_
      refine j_goto C 20 dX3_isReady_16 (by decide) ?_
      exact B.2.2 _ _ _ _ dX3_isReady_20 rfl (congrArg (fun x => (x, u)) hE)
theorem c_isReady (l : Launch) (D : va_G) (z : Nat → ClassId) (a : Nat → Nat) (u : St) (r : Nat) (hr : r < 2) (hG : g_isReady u r) : CtI l yX3_isReady (.code yX3_isReady cX3_isReady 2 (some .boolean) :: TT) rm_isReady D clA (tyl z) (cW z a) [.ref (a 0), .ref (a (23 + r))] u (f_isReady u r) u :=
  jk_metI (own := RX3) (by decide) rfl (Nat.le_of_ble_eq_true rfl) (fun _ _ _ _ _ _ _ _ _ _ _ B => w_isReady_0 B hr rfl hG)
def rm_isFlashing : Room := { frames := 0, cells := 0, slots := 0, locals := 0 }
def f_isFlashing (u : St)  : Int32 := (if (u 1 0) = (0 : Int32) then (0 : Int32) else (1 : Int32))
set_option maxRecDepth 20000 in
set_option maxHeartbeats 1000000 in
theorem w_isFlashing_0 {Fr : Int32} {u : St} (B : jk_BI p l e R s m args below meth c cX3_isFlashing 1 RX3 TT .boolean D clA (tyl z) (cW z a) A Q rm_isFlashing (Fr, u))  (hE : f_isFlashing u = Fr) : JJ p l e R s m args below meth c 0 0 1 D clA (cW z a) A Q 0 [(0, .ref (a 0))] u [] := by
  have C := B.1
  unfold f_isFlashing at hE
  refine j_aload_n C 0 dX3_isFlashing_0 rfl ?_
  refine j_get C kf_3 0 pl_desk 2 (by decide) lk_3_28 rfl dX3_isFlashing_1 ?_
  refine j_get C kf_0 3 pl_guard 3 (by decide) lk_3_159 rfl dX3_isFlashing_4 ?_
  refine j_if_eq C 14 dX3_isFlashing_7 (by decide) (fun c1 => ?_) (fun c1 => ?_)
  · have hE := (if_pos c1).symm.trans hE
    refine j_iconst C 0 dX3_isFlashing_14 ic_0 ?_
    exact B.2.2 _ _ _ _ dX3_isFlashing_15 rfl (congrArg (fun x => (x, u)) hE)
  · have hE := (if_neg c1).symm.trans hE
    refine j_iconst C 1 dX3_isFlashing_10 ic_1 ?_
    refine j_goto C 15 dX3_isFlashing_11 (by decide) ?_
    exact B.2.2 _ _ _ _ dX3_isFlashing_15 rfl (congrArg (fun x => (x, u)) hE)
theorem c_isFlashing (l : Launch) (D : va_G) (z : Nat → ClassId) (a : Nat → Nat) (u : St)  : CtI l yX3_isFlashing (.code yX3_isFlashing cX3_isFlashing 1 (some .boolean) :: TT) rm_isFlashing D clA (tyl z) (cW z a) [.ref (a 0)] u (f_isFlashing u) u :=
  jk_metI (own := RX3) (by decide) rfl (Nat.le_of_ble_eq_true rfl) (fun _ _ _ _ _ _ _ _ _ _ _ B => w_isFlashing_0 B rfl)
def rm_toldLight : Room := { frames := 1, cells := 0, slots := 0, locals := 20 }
def f_toldLight (u : St) (k0 : Nat) : Int32 := (if (u 30 (k0 / 4)) = (nI k0) then (if (u 31 (k0 / 4)) = (1 : Int32) then (2 : Int32) else (if (u 31 (k0 / 4)) = (2 : Int32) then (1 : Int32) else (0 : Int32))) else (0 : Int32))
set_option maxRecDepth 20000 in
set_option maxHeartbeats 1000000 in
theorem w_toldLight_0 {Fr : Int32} {u : St} (B : jk_BI p l e R s m args below meth c cX3_toldLight 3 RX3 TT .int D clA (tyl z) (cW z a) A Q rm_toldLight (Fr, u)) {k0 : Nat} (hk0 : k0 < 8) (hE : f_toldLight u k0 = Fr) : JJ p l e R s m args below meth c 0 0 3 D clA (cW z a) A Q 0 [(0, .ref (a 0)), (1, .int (nI k0))] u [] := by
  have C := B.1
  unfold f_toldLight at hE
  refine j_aload_n C 0 dX3_toldLight_0 rfl ?_
  refine j_get C kf_3 0 pl_desk 1 (by decide) lk_3_18 rfl dX3_toldLight_1 ?_
  refine j_iload_n C 1 dX3_toldLight_4 rfl ?_
  refine j_cIS C B.2.1 (c_ringOf l D z a u k0 hk0) gv_3_115 dd_ringOf ⟨⟨rfl, rfl⟩, Nat.le_of_ble_eq_true rfl, Nat.le_of_ble_eq_true rfl⟩ rfl rfl (Nat.le_of_ble_eq_true rfl) dX3_toldLight_5 ?_
  refine j_aald C 2 3 pl_rgs rfl (k0 / 4) rfl (by omega) (by decide) rfl dX3_toldLight_8 ?_
  refine j_astore_n C dX3_toldLight_9 (by decide) rfl ?_
  refine j_aload_n C 0 dX3_toldLight_10 rfl ?_
  refine j_get C kf_2 (23 + (k0 / 4)) (pl_rg (by omega)) 2 (by decide) lk_3_137 rfl dX3_toldLight_11 ?_
  refine j_iload_n C 2 dX3_toldLight_14 rfl ?_
  refine j_icmp_eq C 20 dX3_toldLight_15 (by decide) (fun c1 => ?_) (fun c1 => ?_)
  · have hE := (if_pos c1).symm.trans hE
    refine j_aload_n C 0 dX3_toldLight_20 rfl ?_
    refine j_get C kf_2 (23 + (k0 / 4)) (pl_rg (by omega)) 3 (by decide) lk_3_140 rfl dX3_toldLight_21 ?_
    refine j_iconst C 1 dX3_toldLight_24 ic_1 ?_
    refine j_icmp_ne C 30 dX3_toldLight_25 (by decide) (fun c2 => ?_) (fun c2 => ?_)
    · have hE := (if_neg c2).symm.trans hE
      refine j_aload_n C 0 dX3_toldLight_30 rfl ?_
      refine j_get C kf_2 (23 + (k0 / 4)) (pl_rg (by omega)) 3 (by decide) lk_3_140 rfl dX3_toldLight_31 ?_
      refine j_iconst C 2 dX3_toldLight_34 ic_2 ?_
      refine j_icmp_ne C 42 dX3_toldLight_35 (by decide) (fun c3 => ?_) (fun c3 => ?_)
      · have hE := (if_neg c3).symm.trans hE
        refine j_iconst C 0 dX3_toldLight_42 ic_0 ?_
        exact B.2.2 _ _ _ _ dX3_toldLight_43 rfl (congrArg (fun x => (x, u)) hE)
      · have hE := (if_pos c3).symm.trans hE
        refine j_iconst C 1 dX3_toldLight_38 ic_1 ?_
        refine j_goto C 43 dX3_toldLight_39 (by decide) ?_
        exact B.2.2 _ _ _ _ dX3_toldLight_43 rfl (congrArg (fun x => (x, u)) hE)
    · have hE := (if_pos c2).symm.trans hE
      refine j_iconst C 2 dX3_toldLight_28 ic_2 ?_
      exact B.2.2 _ _ _ _ dX3_toldLight_29 rfl (congrArg (fun x => (x, u)) hE)
  · have hE := (if_neg c1).symm.trans hE
    refine j_iconst C 0 dX3_toldLight_18 ic_0 ?_
    exact B.2.2 _ _ _ _ dX3_toldLight_19 rfl (congrArg (fun x => (x, u)) hE)
theorem c_toldLight (l : Launch) (D : va_G) (z : Nat → ClassId) (a : Nat → Nat) (u : St) (k0 : Nat) (hk0 : k0 < 8) : CtI l yX3_toldLight (.code yX3_toldLight cX3_toldLight 3 (some .int) :: TT) rm_toldLight D clA (tyl z) (cW z a) [.ref (a 0), .int (nI k0)] u (f_toldLight u k0) u :=
  jk_metI (own := RX3) (by decide) rfl (Nat.le_of_ble_eq_true rfl) (fun _ _ _ _ _ _ _ _ _ _ _ B => w_toldLight_0 B hk0 rfl)
def rm_shownLight : Room := { frames := 2, cells := 0, slots := 0, locals := 42 }
def f_shownLight (u : St) (k0 : Nat) : Int32 := (if (u 17 k0) = (-1 : Int32) then (f_toldLight u k0) else (u 17 k0))
set_option maxRecDepth 20000 in
set_option maxHeartbeats 1000000 in
theorem w_shownLight_0 {Fr : Int32} {u : St} (B : jk_BI p l e R s m args below meth c cX3_shownLight 3 RX3 TT .int D clA (tyl z) (cW z a) A Q rm_shownLight (Fr, u)) {k0 : Nat} (hk0 : k0 < 8) (hE : f_shownLight u k0 = Fr) : JJ p l e R s m args below meth c 0 0 3 D clA (cW z a) A Q 0 [(0, .ref (a 0)), (1, .int (nI k0))] u [] := by
  have C := B.1
  unfold f_shownLight at hE
  refine j_aload_n C 0 dX3_shownLight_0 rfl ?_
  refine j_get C kf_3 0 pl_desk 0 (by decide) lk_3_11 rfl dX3_shownLight_1 ?_
  refine j_iload_n C 1 dX3_shownLight_4 rfl ?_
  refine j_aald C 1 2 pl_mvs rfl k0 rfl hk0 (by decide) rfl dX3_shownLight_5 ?_
  refine j_get C kf_1 (7 + k0) (pl_mv hk0) 8 (by decide) lk_3_86 rfl dX3_shownLight_6 ?_
  refine j_istore_n C dX3_shownLight_9 (by decide) rfl ?_
  refine j_iload_n C 0 dX3_shownLight_10 rfl ?_
  refine j_iconst C (-1) dX3_shownLight_11 ic_m1 ?_
  refine j_icmp_eq C 19 dX3_shownLight_12 (by decide) (fun c1 => ?_) (fun c1 => ?_)
  · have hE := (if_pos c1).symm.trans hE
    refine j_aload_n C 1 dX3_shownLight_19 rfl ?_
    refine j_iload_n C 2 dX3_shownLight_20 rfl ?_
    refine j_cIV C B.2.1 (c_toldLight l D z a u k0 hk0) gv_3_165 dd_toldLight ⟨⟨rfl, rfl⟩, Nat.le_of_ble_eq_true rfl, Nat.le_of_ble_eq_true rfl⟩ 0 3 pl_desk rfl rfl rfl rfl (Nat.le_of_ble_eq_true rfl) dX3_shownLight_21 ?_
    exact B.2.2 _ _ _ _ dX3_shownLight_24 rfl (congrArg (fun x => (x, u)) hE)
  · have hE := (if_neg c1).symm.trans hE
    refine j_iload_n C 0 dX3_shownLight_15 rfl ?_
    refine j_goto C 24 dX3_shownLight_16 (by decide) ?_
    exact B.2.2 _ _ _ _ dX3_shownLight_24 rfl (congrArg (fun x => (x, u)) hE)
theorem c_shownLight (l : Launch) (D : va_G) (z : Nat → ClassId) (a : Nat → Nat) (u : St) (k0 : Nat) (hk0 : k0 < 8) : CtI l yX3_shownLight (.code yX3_shownLight cX3_shownLight 3 (some .int) :: TT) rm_shownLight D clA (tyl z) (cW z a) [.ref (a 0), .int (nI k0)] u (f_shownLight u k0) u :=
  jk_metI (own := RX3) (by decide) rfl (Nat.le_of_ble_eq_true rfl) (fun _ _ _ _ _ _ _ _ _ _ _ B => w_shownLight_0 B hk0 rfl)
def rm_isMovement : Room := { frames := 0, cells := 0, slots := 0, locals := 0 }
def f_isMovement (x0 : Int32) : Int32 := (if x0 < (0 : Int32) then (0 : Int32) else (if (8 : Int32) ≤ x0 then (0 : Int32) else (1 : Int32)))
set_option maxRecDepth 20000 in
set_option maxHeartbeats 1000000 in
theorem w_isMovement_0 {Fr : Int32} {u : St} (B : jk_BI p l e R s m args below meth c cX3_isMovement 1 RX3 TT .boolean D clA (tyl z) (cW z a) A Q rm_isMovement (Fr, u)) (x0 : Int32) (hE : f_isMovement x0 = Fr) : JJ p l e R s m args below meth c 0 0 1 D clA (cW z a) A Q 0 [(0, .int x0)] u [] := by
  have C := B.1
  unfold f_isMovement at hE
  refine j_iload_n C 0 dX3_isMovement_0 rfl ?_
  refine j_if_lt C 14 dX3_isMovement_1 (by decide) (fun c1 => ?_) (fun c1 => ?_)
  · have hE := (if_pos c1).symm.trans hE
    refine j_iconst C 0 dX3_isMovement_14 ic_0 ?_
    exact B.2.2 _ _ _ _ dX3_isMovement_15 rfl (congrArg (fun x => (x, u)) hE)
  · have hE := (if_neg c1).symm.trans hE
    refine j_iload_n C 0 dX3_isMovement_4 rfl ?_
    refine j_bipush C 8 dX3_isMovement_5 bp_8 ?_
    refine j_icmp_ge C 14 dX3_isMovement_7 (by decide) (fun c2 => ?_) (fun c2 => ?_)
    · have hE := (if_pos c2).symm.trans hE
      refine j_iconst C 0 dX3_isMovement_14 ic_0 ?_
      exact B.2.2 _ _ _ _ dX3_isMovement_15 rfl (congrArg (fun x => (x, u)) hE)
    · have hE := (if_neg c2).symm.trans hE
      refine j_iconst C 1 dX3_isMovement_10 ic_1 ?_
      refine j_goto C 15 dX3_isMovement_11 (by decide) ?_
      exact B.2.2 _ _ _ _ dX3_isMovement_15 rfl (congrArg (fun x => (x, u)) hE)
theorem c_isMovement (l : Launch) (D : va_G) (z : Nat → ClassId) (a : Nat → Nat) (u : St) (x0 : Int32) : CtI l yX3_isMovement (.code yX3_isMovement cX3_isMovement 1 (some .boolean) :: TT) rm_isMovement D clA (tyl z) (cW z a) [.int x0] u (f_isMovement x0) u :=
  jk_metI (own := RX3) (by decide) rfl (Nat.le_of_ble_eq_true rfl) (fun _ _ _ _ _ _ _ _ _ _ _ B => w_isMovement_0 B x0 rfl)
end WLK
end
section
section WLK
variable {p : Program} {l : Launch} {e : Env} {R : Room} {s : State} {m : MethodId} {args : Array Value} {below : List Frame} {meth : Method} {c : Code} {D : va_G} {z : Nat → ClassId} {a : Nat → Nat} {A : Nat → Prop} {Q : State → Prop}
def rm_isRing : Room := { frames := 0, cells := 0, slots := 0, locals := 0 }
def f_isRing (x0 : Int32) : Int32 := (if x0 < (0 : Int32) then (0 : Int32) else (if (2 : Int32) ≤ x0 then (0 : Int32) else (1 : Int32)))
set_option maxRecDepth 20000 in
set_option maxHeartbeats 1000000 in
theorem w_isRing_0 {Fr : Int32} {u : St} (B : jk_BI p l e R s m args below meth c cX3_isRing 1 RX3 TT .boolean D clA (tyl z) (cW z a) A Q rm_isRing (Fr, u)) (x0 : Int32) (hE : f_isRing x0 = Fr) : JJ p l e R s m args below meth c 0 0 1 D clA (cW z a) A Q 0 [(0, .int x0)] u [] := by
  have C := B.1
  unfold f_isRing at hE
  refine j_iload_n C 0 dX3_isRing_0 rfl ?_
  refine j_if_lt C 13 dX3_isRing_1 (by decide) (fun c1 => ?_) (fun c1 => ?_)
  · have hE := (if_pos c1).symm.trans hE
    refine j_iconst C 0 dX3_isRing_13 ic_0 ?_
    exact B.2.2 _ _ _ _ dX3_isRing_14 rfl (congrArg (fun x => (x, u)) hE)
  · have hE := (if_neg c1).symm.trans hE
    refine j_iload_n C 0 dX3_isRing_4 rfl ?_
    refine j_iconst C 2 dX3_isRing_5 ic_2 ?_
    refine j_icmp_ge C 13 dX3_isRing_6 (by decide) (fun c2 => ?_) (fun c2 => ?_)
    · have hE := (if_pos c2).symm.trans hE
      refine j_iconst C 0 dX3_isRing_13 ic_0 ?_
      exact B.2.2 _ _ _ _ dX3_isRing_14 rfl (congrArg (fun x => (x, u)) hE)
    · have hE := (if_neg c2).symm.trans hE
      refine j_iconst C 1 dX3_isRing_9 ic_1 ?_
      refine j_goto C 14 dX3_isRing_10 (by decide) ?_
      exact B.2.2 _ _ _ _ dX3_isRing_14 rfl (congrArg (fun x => (x, u)) hE)
theorem c_isRing (l : Launch) (D : va_G) (z : Nat → ClassId) (a : Nat → Nat) (u : St) (x0 : Int32) : CtI l yX3_isRing (.code yX3_isRing cX3_isRing 1 (some .boolean) :: TT) rm_isRing D clA (tyl z) (cW z a) [.int x0] u (f_isRing x0) u :=
  jk_metI (own := RX3) (by decide) rfl (Nat.le_of_ble_eq_true rfl) (fun _ _ _ _ _ _ _ _ _ _ _ B => w_isRing_0 B x0 rfl)
def rm_number : Room := { frames := 0, cells := 0, slots := 0, locals := 0 }
def f_number (b0 : Int32) : Int32 := (if b0 = (0 : Int32) then (0 : Int32) else (1 : Int32))
set_option maxRecDepth 20000 in
set_option maxHeartbeats 1000000 in
theorem w_number_0 {Fr : Int32} {u : St} (B : jk_BI p l e R s m args below meth c cX3_number 1 RX3 TT .int D clA (tyl z) (cW z a) A Q rm_number (Fr, u)) (b0 : Int32) (hE : f_number b0 = Fr) : JJ p l e R s m args below meth c 0 0 1 D clA (cW z a) A Q 0 [(0, .int b0)] u [] := by
  have C := B.1
  unfold f_number at hE
  refine j_iload_n C 0 dX3_number_0 rfl ?_
  refine j_if_eq C 8 dX3_number_1 (by decide) (fun c1 => ?_) (fun c1 => ?_)
  · have hE := (if_pos c1).symm.trans hE
    refine j_iconst C 0 dX3_number_8 ic_0 ?_
    exact B.2.2 _ _ _ _ dX3_number_9 rfl (congrArg (fun x => (x, u)) hE)
  · have hE := (if_neg c1).symm.trans hE
    refine j_iconst C 1 dX3_number_4 ic_1 ?_
    refine j_goto C 9 dX3_number_5 (by decide) ?_
    exact B.2.2 _ _ _ _ dX3_number_9 rfl (congrArg (fun x => (x, u)) hE)
theorem c_number (l : Launch) (D : va_G) (z : Nat → ClassId) (a : Nat → Nat) (u : St) (b0 : Int32) : CtI l yX3_number (.code yX3_number cX3_number 1 (some .int) :: TT) rm_number D clA (tyl z) (cW z a) [.int b0] u (f_number b0) u :=
  jk_metI (own := RX3) (by decide) rfl (Nat.le_of_ble_eq_true rfl) (fun _ _ _ _ _ _ _ _ _ _ _ B => w_number_0 B b0 rfl)
def rm_isAnyCalledOn : Room := { frames := 3, cells := 0, slots := 0, locals := 63 }
def f_isAnyCalledOn_2 (u : St) (x0 : Int32) : Nat → Nat → Int32
  | 0, i => (0 : Int32)
  | n + 1, i => (if (f_sideOf i) = x0 then (if (f_isCalled u i) = (0 : Int32) then (f_isAnyCalledOn_2 u x0 n (i + 1)) else (1 : Int32)) else (f_isAnyCalledOn_2 u x0 n (i + 1)))
set_option maxRecDepth 20000 in
set_option maxHeartbeats 1000000 in
theorem w_isAnyCalledOn_2 {Fr : Int32} {u : St} (B : jk_BI p l e R s m args below meth c cX3_isAnyCalledOn 3 RX3 TT .boolean D clA (tyl z) (cW z a) A Q rm_isAnyCalledOn (Fr, u)) (x0 : Int32) : ∀ (n i : Nat), i + n = 8 → f_isAnyCalledOn_2 u x0 n i = Fr → JJ p l e R s m args below meth c 0 0 3 D clA (cW z a) A Q 2 [(2, .int (nI i)), (0, .ref (a 0)), (1, .int x0)] u [] := by
  have C := B.1
  intro n
  induction n with
  | zero =>
    intro i hin hE
    obtain rfl : i = 8 := by omega
    have hge : (8 : Int32) ≤ nI 8 := by decide
    refine j_iload_n C 0 dX3_isAnyCalledOn_2 rfl ?_
    refine j_bipush C 8 dX3_isAnyCalledOn_3 bp_8 ?_
    refine j_icmp_ge C 32 dX3_isAnyCalledOn_5 (by decide) (fun _ => ?_) (fun hq => absurd hge hq)
    refine j_iconst C 0 dX3_isAnyCalledOn_32 ic_0 ?_
    exact B.2.2 _ _ _ _ dX3_isAnyCalledOn_33 rfl (congrArg (fun x => (x, u)) hE)
  | succ n ih =>
    intro i hin hE
    have hlt : i < 8 := by omega
    have hnge : ¬ (8 : Int32) ≤ nI i := lt8 i hlt
    refine j_iload_n C 0 dX3_isAnyCalledOn_2 rfl ?_
    refine j_bipush C 8 dX3_isAnyCalledOn_3 bp_8 ?_
    refine j_icmp_ge C 32 dX3_isAnyCalledOn_5 (by decide) (fun hq => absurd hq hnge) (fun _ => ?_)
    refine j_iload_n C 0 dX3_isAnyCalledOn_8 rfl ?_
    refine j_cIS C B.2.1 (c_sideOf l D z a u i hlt) gv_3_243 dd_sideOf ⟨⟨rfl, rfl⟩, Nat.le_of_ble_eq_true rfl, Nat.le_of_ble_eq_true rfl⟩ rfl rfl (Nat.le_of_ble_eq_true rfl) dX3_isAnyCalledOn_9 ?_
    refine j_iload_n C 2 dX3_isAnyCalledOn_12 rfl ?_
    refine j_icmp_ne C 26 dX3_isAnyCalledOn_13 (by decide) (fun c1 => ?_) (fun c1 => ?_)
    · have hE := (if_neg c1).symm.trans hE
      refine j_iinc C 0 (nI (i + 1)) dX3_isAnyCalledOn_26 rfl (nI_1 _) (by decide) rfl ?_
      refine j_goto C 2 dX3_isAnyCalledOn_29 (by decide) ?_
      exact ih (i + 1) (by omega) hE
    · have hE := (if_pos c1).symm.trans hE
      refine j_aload_n C 1 dX3_isAnyCalledOn_16 rfl ?_
      refine j_iload_n C 0 dX3_isAnyCalledOn_17 rfl ?_
      refine j_cIV C B.2.1 (c_isCalled l D z a u i hlt) gv_3_121 dd_isCalled ⟨⟨rfl, rfl⟩, Nat.le_of_ble_eq_true rfl, Nat.le_of_ble_eq_true rfl⟩ 0 3 pl_desk rfl rfl rfl rfl (Nat.le_of_ble_eq_true rfl) dX3_isAnyCalledOn_18 ?_
      refine j_if_eq C 26 dX3_isAnyCalledOn_21 (by decide) (fun c2 => ?_) (fun c2 => ?_)
      · have hE := (if_pos c2).symm.trans hE
        refine j_iinc C 0 (nI (i + 1)) dX3_isAnyCalledOn_26 rfl (nI_1 _) (by decide) rfl ?_
        refine j_goto C 2 dX3_isAnyCalledOn_29 (by decide) ?_
        exact ih (i + 1) (by omega) hE
      · have hE := (if_neg c2).symm.trans hE
        refine j_iconst C 1 dX3_isAnyCalledOn_24 ic_1 ?_
        exact B.2.2 _ _ _ _ dX3_isAnyCalledOn_25 rfl (congrArg (fun x => (x, u)) hE)
def f_isAnyCalledOn (u : St) (x0 : Int32) : Int32 := (f_isAnyCalledOn_2 u x0 8 0)
set_option maxRecDepth 20000 in
set_option maxHeartbeats 1000000 in
theorem w_isAnyCalledOn_0 {Fr : Int32} {u : St} (B : jk_BI p l e R s m args below meth c cX3_isAnyCalledOn 3 RX3 TT .boolean D clA (tyl z) (cW z a) A Q rm_isAnyCalledOn (Fr, u)) (x0 : Int32) (hE : f_isAnyCalledOn u x0 = Fr) : JJ p l e R s m args below meth c 0 0 3 D clA (cW z a) A Q 0 [(0, .ref (a 0)), (1, .int x0)] u [] := by
  have C := B.1
  unfold f_isAnyCalledOn at hE
  refine j_iconst C 0 dX3_isAnyCalledOn_0 ic_0 ?_
  refine j_istore_n C dX3_isAnyCalledOn_1 (by decide) rfl ?_
  refine j_lq (congrArg (fun x => ([(2, .int x), (0, .ref (a 0)), (1, .int x0)] : List (Nat × Value))) ix_0) ?_
  exact w_isAnyCalledOn_2 B x0 8 0 (by omega) hE
theorem c_isAnyCalledOn (l : Launch) (D : va_G) (z : Nat → ClassId) (a : Nat → Nat) (u : St) (x0 : Int32) : CtI l yX3_isAnyCalledOn (.code yX3_isAnyCalledOn cX3_isAnyCalledOn 3 (some .boolean) :: TT) rm_isAnyCalledOn D clA (tyl z) (cW z a) [.ref (a 0), .int x0] u (f_isAnyCalledOn u x0) u :=
  jk_metI (own := RX3) (by decide) rfl (Nat.le_of_ble_eq_true rfl) (fun _ _ _ _ _ _ _ _ _ _ _ B => w_isAnyCalledOn_0 B x0 rfl)
def rm_calledOn : Room := { frames := 3, cells := 0, slots := 0, locals := 63 }
def f_calledOn (u : St) (r : Nat) (x0 : Int32) : Int32 := (if (f_isCalled u ((f_R_first u r x0).toNatClampNeg)) = (0 : Int32) then (if (f_isCalled u ((f_R_second u r x0).toNatClampNeg)) = (0 : Int32) then (-1 : Int32) else (f_R_second u r x0)) else (f_R_first u r x0))
def g_calledOn (u : St) (r : Nat) (x0 : Int32) : Prop := ((g_R_first u r x0) ∧ ((vp_in (f_R_first u r x0) 8) ∧ (((f_isCalled u ((f_R_first u r x0).toNatClampNeg)) = (0 : Int32) → ((g_R_second u r x0) ∧ ((vp_in (f_R_second u r x0) 8) ∧ (((f_isCalled u ((f_R_second u r x0).toNatClampNeg)) = (0 : Int32) → True) ∧ (¬ (f_isCalled u ((f_R_second u r x0).toNatClampNeg)) = (0 : Int32) → (g_R_second u r x0)))))) ∧ (¬ (f_isCalled u ((f_R_first u r x0).toNatClampNeg)) = (0 : Int32) → (g_R_first u r x0)))))
set_option maxRecDepth 20000 in
set_option maxHeartbeats 1000000 in
theorem w_calledOn_0 {Fr : Int32} {u : St} (B : jk_BI p l e R s m args below meth c cX3_calledOn 3 RX3 TT .int D clA (tyl z) (cW z a) A Q rm_calledOn (Fr, u)) {r : Nat} (hr : r < 2) (x0 : Int32) (hE : f_calledOn u r x0 = Fr) (hG : g_calledOn u r x0) : JJ p l e R s m args below meth c 0 0 3 D clA (cW z a) A Q 0 [(0, .ref (a 0)), (1, .ref (a (23 + r))), (2, .int x0)] u [] := by
  have C := B.1
  unfold f_calledOn at hE
  unfold g_calledOn at hG
  refine j_aload_n C 0 dX3_calledOn_0 rfl ?_
  refine j_aload_n C 1 dX3_calledOn_1 rfl ?_
  refine j_iload_n C 2 dX3_calledOn_2 rfl ?_
  obtain ⟨hg1, hG⟩ := hG
  refine j_cIV C B.2.1 (c_R_first l D z a u r x0 hr hg1) gv_3_56 dd_R_first ⟨⟨rfl, rfl⟩, Nat.le_of_ble_eq_true rfl, Nat.le_of_ble_eq_true rfl⟩ (23 + r) 2 (pl_rg hr) rfl rfl rfl rfl (Nat.le_of_ble_eq_true rfl) dX3_calledOn_3 ?_
  obtain ⟨hv2, hG⟩ := hG
  have lhv2 := jk_lt hv2
  refine j_st (st' := [.int (nI ((f_R_first u r x0).toNatClampNeg)), .ref (a 0)]) (congrArg (fun x => ([.int x, .ref (a 0)] : List Value)) (jk_self hv2 (by decide))) ?_
  refine j_cIV C B.2.1 (c_isCalled l D z a u ((f_R_first u r x0).toNatClampNeg) (jk_lt hv2)) gv_3_121 dd_isCalled ⟨⟨rfl, rfl⟩, Nat.le_of_ble_eq_true rfl, Nat.le_of_ble_eq_true rfl⟩ 0 3 pl_desk rfl rfl rfl rfl (Nat.le_of_ble_eq_true rfl) dX3_calledOn_6 ?_
  refine j_if_eq C 18 dX3_calledOn_9 (by decide) (fun c3 => ?_) (fun c3 => ?_)
  · have hE := (if_pos c3).symm.trans hE
    have hG := hG.1 c3
    refine j_aload_n C 0 dX3_calledOn_18 rfl ?_
    refine j_aload_n C 1 dX3_calledOn_19 rfl ?_
    refine j_iload_n C 2 dX3_calledOn_20 rfl ?_
    obtain ⟨hg4, hG⟩ := hG
    refine j_cIV C B.2.1 (c_R_second l D z a u r x0 hr hg4) gv_3_63 dd_R_second ⟨⟨rfl, rfl⟩, Nat.le_of_ble_eq_true rfl, Nat.le_of_ble_eq_true rfl⟩ (23 + r) 2 (pl_rg hr) rfl rfl rfl rfl (Nat.le_of_ble_eq_true rfl) dX3_calledOn_21 ?_
    obtain ⟨hv5, hG⟩ := hG
    have lhv5 := jk_lt hv5
    refine j_st (st' := [.int (nI ((f_R_second u r x0).toNatClampNeg)), .ref (a 0)]) (congrArg (fun x => ([.int x, .ref (a 0)] : List Value)) (jk_self hv5 (by decide))) ?_
    refine j_cIV C B.2.1 (c_isCalled l D z a u ((f_R_second u r x0).toNatClampNeg) (jk_lt hv5)) gv_3_121 dd_isCalled ⟨⟨rfl, rfl⟩, Nat.le_of_ble_eq_true rfl, Nat.le_of_ble_eq_true rfl⟩ 0 3 pl_desk rfl rfl rfl rfl (Nat.le_of_ble_eq_true rfl) dX3_calledOn_24 ?_
    refine j_if_eq C 38 dX3_calledOn_27 (by decide) (fun c6 => ?_) (fun c6 => ?_)
    · have hE := (if_pos c6).symm.trans hE
      refine j_iconst C (-1) dX3_calledOn_38 ic_m1 ?_
      exact B.2.2 _ _ _ _ dX3_calledOn_39 rfl (congrArg (fun x => (x, u)) hE)
    · have hE := (if_neg c6).symm.trans hE
      have hG := hG.2 c6
      refine j_aload_n C 1 dX3_calledOn_30 rfl ?_
      refine j_iload_n C 2 dX3_calledOn_31 rfl ?_
      have hg7 := hG
      refine j_cIV C B.2.1 (c_R_second l D z a u r x0 hr hg7) gv_3_63 dd_R_second ⟨⟨rfl, rfl⟩, Nat.le_of_ble_eq_true rfl, Nat.le_of_ble_eq_true rfl⟩ (23 + r) 2 (pl_rg hr) rfl rfl rfl rfl (Nat.le_of_ble_eq_true rfl) dX3_calledOn_32 ?_
      refine j_goto C 39 dX3_calledOn_35 (by decide) ?_
      exact B.2.2 _ _ _ _ dX3_calledOn_39 rfl (congrArg (fun x => (x, u)) hE)
  · have hE := (if_neg c3).symm.trans hE
    have hG := hG.2 c3
    refine j_aload_n C 1 dX3_calledOn_12 rfl ?_
    refine j_iload_n C 2 dX3_calledOn_13 rfl ?_
    have hg8 := hG
    refine j_cIV C B.2.1 (c_R_first l D z a u r x0 hr hg8) gv_3_56 dd_R_first ⟨⟨rfl, rfl⟩, Nat.le_of_ble_eq_true rfl, Nat.le_of_ble_eq_true rfl⟩ (23 + r) 2 (pl_rg hr) rfl rfl rfl rfl (Nat.le_of_ble_eq_true rfl) dX3_calledOn_14 ?_
    exact B.2.2 _ _ _ _ dX3_calledOn_17 rfl (congrArg (fun x => (x, u)) hE)
theorem c_calledOn (l : Launch) (D : va_G) (z : Nat → ClassId) (a : Nat → Nat) (u : St) (r : Nat) (x0 : Int32) (hr : r < 2) (hG : g_calledOn u r x0) : CtI l yX3_calledOn (.code yX3_calledOn cX3_calledOn 3 (some .int) :: TT) rm_calledOn D clA (tyl z) (cW z a) [.ref (a 0), .ref (a (23 + r)), .int x0] u (f_calledOn u r x0) u :=
  jk_metI (own := RX3) (by decide) rfl (Nat.le_of_ble_eq_true rfl) (fun _ _ _ _ _ _ _ _ _ _ _ B => w_calledOn_0 B hr x0 rfl hG)
def rm_comingAlongOn : Room := { frames := 2, cells := 0, slots := 0, locals := 41 }
def f_comingAlongOn (u : St) (r : Nat) (x0 : Int32) : Int32 := (if (f_M_comesAlong u ((f_R_first u r x0).toNatClampNeg)) = (0 : Int32) then (if (f_M_comesAlong u ((f_R_second u r x0).toNatClampNeg)) = (0 : Int32) then (-1 : Int32) else (f_R_second u r x0)) else (f_R_first u r x0))
def g_comingAlongOn (u : St) (r : Nat) (x0 : Int32) : Prop := ((g_R_first u r x0) ∧ ((vp_in (f_R_first u r x0) 8) ∧ (((f_M_comesAlong u ((f_R_first u r x0).toNatClampNeg)) = (0 : Int32) → ((g_R_second u r x0) ∧ ((vp_in (f_R_second u r x0) 8) ∧ (((f_M_comesAlong u ((f_R_second u r x0).toNatClampNeg)) = (0 : Int32) → True) ∧ (¬ (f_M_comesAlong u ((f_R_second u r x0).toNatClampNeg)) = (0 : Int32) → (g_R_second u r x0)))))) ∧ (¬ (f_M_comesAlong u ((f_R_first u r x0).toNatClampNeg)) = (0 : Int32) → (g_R_first u r x0)))))
set_option maxRecDepth 20000 in
set_option maxHeartbeats 1000000 in
theorem w_comingAlongOn_0 {Fr : Int32} {u : St} (B : jk_BI p l e R s m args below meth c cX3_comingAlongOn 3 RX3 TT .int D clA (tyl z) (cW z a) A Q rm_comingAlongOn (Fr, u)) {r : Nat} (hr : r < 2) (x0 : Int32) (hE : f_comingAlongOn u r x0 = Fr) (hG : g_comingAlongOn u r x0) : JJ p l e R s m args below meth c 0 0 3 D clA (cW z a) A Q 0 [(0, .ref (a 0)), (1, .ref (a (23 + r))), (2, .int x0)] u [] := by
  have C := B.1
  unfold f_comingAlongOn at hE
  unfold g_comingAlongOn at hG
  refine j_aload_n C 0 dX3_comingAlongOn_0 rfl ?_
  refine j_get C kf_3 0 pl_desk 0 (by decide) lk_3_11 rfl dX3_comingAlongOn_1 ?_
  refine j_aload_n C 1 dX3_comingAlongOn_4 rfl ?_
  refine j_iload_n C 2 dX3_comingAlongOn_5 rfl ?_
  obtain ⟨hg1, hG⟩ := hG
  refine j_cIV C B.2.1 (c_R_first l D z a u r x0 hr hg1) gv_3_56 dd_R_first ⟨⟨rfl, rfl⟩, Nat.le_of_ble_eq_true rfl, Nat.le_of_ble_eq_true rfl⟩ (23 + r) 2 (pl_rg hr) rfl rfl rfl rfl (Nat.le_of_ble_eq_true rfl) dX3_comingAlongOn_6 ?_
  obtain ⟨hv2, hG⟩ := hG
  have lhv2 := jk_lt hv2
  refine j_aald C 1 2 pl_mvs rfl ((f_R_first u r x0).toNatClampNeg) (jk_self hv2 (by decide)) (jk_lt hv2) (by decide) rfl dX3_comingAlongOn_9 ?_
  refine j_cIV C B.2.1 (c_M_comesAlong l D z a u ((f_R_first u r x0).toNatClampNeg) (jk_lt hv2)) gv_3_240 dd_M_comesAlong ⟨⟨rfl, rfl⟩, Nat.le_of_ble_eq_true rfl, Nat.le_of_ble_eq_true rfl⟩ (7 + ((f_R_first u r x0).toNatClampNeg)) 1 (pl_mv (jk_lt hv2)) rfl rfl rfl rfl (Nat.le_of_ble_eq_true rfl) dX3_comingAlongOn_10 ?_
  refine j_if_eq C 22 dX3_comingAlongOn_13 (by decide) (fun c3 => ?_) (fun c3 => ?_)
  · have hE := (if_pos c3).symm.trans hE
    have hG := hG.1 c3
    refine j_aload_n C 0 dX3_comingAlongOn_22 rfl ?_
    refine j_get C kf_3 0 pl_desk 0 (by decide) lk_3_11 rfl dX3_comingAlongOn_23 ?_
    refine j_aload_n C 1 dX3_comingAlongOn_26 rfl ?_
    refine j_iload_n C 2 dX3_comingAlongOn_27 rfl ?_
    obtain ⟨hg4, hG⟩ := hG
    refine j_cIV C B.2.1 (c_R_second l D z a u r x0 hr hg4) gv_3_63 dd_R_second ⟨⟨rfl, rfl⟩, Nat.le_of_ble_eq_true rfl, Nat.le_of_ble_eq_true rfl⟩ (23 + r) 2 (pl_rg hr) rfl rfl rfl rfl (Nat.le_of_ble_eq_true rfl) dX3_comingAlongOn_28 ?_
    obtain ⟨hv5, hG⟩ := hG
    have lhv5 := jk_lt hv5
    refine j_aald C 1 2 pl_mvs rfl ((f_R_second u r x0).toNatClampNeg) (jk_self hv5 (by decide)) (jk_lt hv5) (by decide) rfl dX3_comingAlongOn_31 ?_
    refine j_cIV C B.2.1 (c_M_comesAlong l D z a u ((f_R_second u r x0).toNatClampNeg) (jk_lt hv5)) gv_3_240 dd_M_comesAlong ⟨⟨rfl, rfl⟩, Nat.le_of_ble_eq_true rfl, Nat.le_of_ble_eq_true rfl⟩ (7 + ((f_R_second u r x0).toNatClampNeg)) 1 (pl_mv (jk_lt hv5)) rfl rfl rfl rfl (Nat.le_of_ble_eq_true rfl) dX3_comingAlongOn_32 ?_
    refine j_if_eq C 46 dX3_comingAlongOn_35 (by decide) (fun c6 => ?_) (fun c6 => ?_)
    · have hE := (if_pos c6).symm.trans hE
      refine j_iconst C (-1) dX3_comingAlongOn_46 ic_m1 ?_
      exact B.2.2 _ _ _ _ dX3_comingAlongOn_47 rfl (congrArg (fun x => (x, u)) hE)
    · have hE := (if_neg c6).symm.trans hE
      have hG := hG.2 c6
      refine j_aload_n C 1 dX3_comingAlongOn_38 rfl ?_
      refine j_iload_n C 2 dX3_comingAlongOn_39 rfl ?_
      have hg7 := hG
      refine j_cIV C B.2.1 (c_R_second l D z a u r x0 hr hg7) gv_3_63 dd_R_second ⟨⟨rfl, rfl⟩, Nat.le_of_ble_eq_true rfl, Nat.le_of_ble_eq_true rfl⟩ (23 + r) 2 (pl_rg hr) rfl rfl rfl rfl (Nat.le_of_ble_eq_true rfl) dX3_comingAlongOn_40 ?_
      refine j_goto C 47 dX3_comingAlongOn_43 (by decide) ?_
      exact B.2.2 _ _ _ _ dX3_comingAlongOn_47 rfl (congrArg (fun x => (x, u)) hE)
  · have hE := (if_neg c3).symm.trans hE
    have hG := hG.2 c3
    refine j_aload_n C 1 dX3_comingAlongOn_16 rfl ?_
    refine j_iload_n C 2 dX3_comingAlongOn_17 rfl ?_
    have hg8 := hG
    refine j_cIV C B.2.1 (c_R_first l D z a u r x0 hr hg8) gv_3_56 dd_R_first ⟨⟨rfl, rfl⟩, Nat.le_of_ble_eq_true rfl, Nat.le_of_ble_eq_true rfl⟩ (23 + r) 2 (pl_rg hr) rfl rfl rfl rfl (Nat.le_of_ble_eq_true rfl) dX3_comingAlongOn_18 ?_
    exact B.2.2 _ _ _ _ dX3_comingAlongOn_21 rfl (congrArg (fun x => (x, u)) hE)
theorem c_comingAlongOn (l : Launch) (D : va_G) (z : Nat → ClassId) (a : Nat → Nat) (u : St) (r : Nat) (x0 : Int32) (hr : r < 2) (hG : g_comingAlongOn u r x0) : CtI l yX3_comingAlongOn (.code yX3_comingAlongOn cX3_comingAlongOn 3 (some .int) :: TT) rm_comingAlongOn D clA (tyl z) (cW z a) [.ref (a 0), .ref (a (23 + r)), .int x0] u (f_comingAlongOn u r x0) u :=
  jk_metI (own := RX3) (by decide) rfl (Nat.le_of_ble_eq_true rfl) (fun _ _ _ _ _ _ _ _ _ _ _ B => w_comingAlongOn_0 B hr x0 rfl hG)
def rm_countWaits : Room := { frames := 3, cells := 0, slots := 0, locals := 63 }
def f_countWaits_2  : Nat → Nat → St → St
  | 0, i, u => u
  | n + 1, i, u => (f_countWaits_2 n (i + 1) (f_M_countWait u i (f_isCalled u i)))
set_option maxRecDepth 20000 in
set_option maxHeartbeats 1000000 in
theorem w_countWaits_2 {F : St} (B : jk_BV p l e R s m args below meth c cX3_countWaits 2 RX3 TT D clA (tyl z) (cW z a) A Q rm_countWaits F)  : ∀ (n i : Nat) (u : St), i + n = 8 → f_countWaits_2 n i u = F → JJ p l e R s m args below meth c 0 0 2 D clA (cW z a) A Q 2 [(1, .int (nI i)), (0, .ref (a 0))] u [] := by
  have C := B.1
  intro n
  induction n with
  | zero =>
    intro i u hin hE
    obtain rfl : i = 8 := by omega
    have hge : (8 : Int32) ≤ nI 8 := by decide
    refine j_iload_n C 0 dX3_countWaits_2 rfl ?_
    refine j_bipush C 8 dX3_countWaits_3 bp_8 ?_
    refine j_icmp_ge C 28 dX3_countWaits_5 (by decide) (fun _ => ?_) (fun hq => absurd hge hq)
    exact B.2.2 _ _ _ dX3_countWaits_28 hE
  | succ n ih =>
    intro i u hin hE
    have hlt : i < 8 := by omega
    have hnge : ¬ (8 : Int32) ≤ nI i := lt8 i hlt
    refine j_iload_n C 0 dX3_countWaits_2 rfl ?_
    refine j_bipush C 8 dX3_countWaits_3 bp_8 ?_
    refine j_icmp_ge C 28 dX3_countWaits_5 (by decide) (fun hq => absurd hq hnge) (fun _ => ?_)
    refine j_aload_n C 1 dX3_countWaits_8 rfl ?_
    refine j_get C kf_3 0 pl_desk 0 (by decide) lk_3_11 rfl dX3_countWaits_9 ?_
    refine j_iload_n C 0 dX3_countWaits_12 rfl ?_
    refine j_aald C 1 2 pl_mvs rfl i rfl hlt (by decide) rfl dX3_countWaits_13 ?_
    refine j_aload_n C 1 dX3_countWaits_14 rfl ?_
    refine j_iload_n C 0 dX3_countWaits_15 rfl ?_
    refine j_cIV C B.2.1 (c_isCalled l D z a u i hlt) gv_3_121 dd_isCalled ⟨⟨rfl, rfl⟩, Nat.le_of_ble_eq_true rfl, Nat.le_of_ble_eq_true rfl⟩ 0 3 pl_desk rfl rfl rfl rfl (Nat.le_of_ble_eq_true rfl) dX3_countWaits_16 ?_
    refine j_cVV C B.2.1 (c_M_countWait l D z a u i (f_isCalled u i) hlt) gv_3_194 dd_M_countWait ⟨⟨rfl, rfl⟩, Nat.le_of_ble_eq_true rfl, Nat.le_of_ble_eq_true rfl⟩ (7 + i) 1 (pl_mv hlt) rfl rfl rfl rfl (Nat.le_of_ble_eq_true rfl) dX3_countWaits_19 ?_
    refine j_iinc C 0 (nI (i + 1)) dX3_countWaits_22 rfl (nI_1 _) (by decide) rfl ?_
    refine j_goto C 2 dX3_countWaits_25 (by decide) ?_
    exact ih (i + 1) (f_M_countWait u i (f_isCalled u i)) (by omega) hE
def f_countWaits (u : St)  : St := (f_countWaits_2 8 0 u)
set_option maxRecDepth 20000 in
set_option maxHeartbeats 1000000 in
theorem w_countWaits_0 {F : St} {u : St} (B : jk_BV p l e R s m args below meth c cX3_countWaits 2 RX3 TT D clA (tyl z) (cW z a) A Q rm_countWaits F)  (hE : f_countWaits u = F) : JJ p l e R s m args below meth c 0 0 2 D clA (cW z a) A Q 0 [(0, .ref (a 0))] u [] := by
  have C := B.1
  unfold f_countWaits at hE
  refine j_iconst C 0 dX3_countWaits_0 ic_0 ?_
  refine j_istore_n C dX3_countWaits_1 (by decide) rfl ?_
  refine j_lq (congrArg (fun x => ([(1, .int x), (0, .ref (a 0))] : List (Nat × Value))) ix_0) ?_
  exact w_countWaits_2 B 8 0 u (by omega) hE
theorem c_countWaits (l : Launch) (D : va_G) (z : Nat → ClassId) (a : Nat → Nat) (u : St)  : CtV l yX3_countWaits (.code yX3_countWaits cX3_countWaits 2 none :: TT) rm_countWaits D clA (tyl z) (cW z a) [.ref (a 0)] u (f_countWaits u) :=
  jk_metV (own := RX3) (by decide) rfl (Nat.le_of_ble_eq_true rfl) (fun _ _ _ _ _ _ _ _ _ _ _ B => w_countWaits_0 B rfl)
def rm_advanceRings : Room := { frames := 4, cells := 0, slots := 0, locals := 85 }
def f_advanceRings_24  : Nat → Nat → Int32 → St → St
  | 0, i, x9, u => u
  | n + 1, i, x9, u => (if (u 31 i) = (1 : Int32) then (f_advanceRings_24 n (i + 1) x9 (f_R_advanceGreen u i ((u 30 i).toNatClampNeg) x9)) else (if (u 31 i) = (0 : Int32) then (f_advanceRings_24 n (i + 1) x9 u) else (f_advanceRings_24 n (i + 1) x9 (f_R_advanceEnding u i ((u 30 i).toNatClampNeg)))))
def g_advanceRings_24  : Nat → Nat → Int32 → St → Prop
  | 0, i, x9, u => True
  | n + 1, i, x9, u => (((u 31 i) = (1 : Int32) → ((vp_in (u 30 i) 8) ∧ (g_advanceRings_24 n (i + 1) x9 (f_R_advanceGreen u i ((u 30 i).toNatClampNeg) x9)))) ∧ (¬ (u 31 i) = (1 : Int32) → (((u 31 i) = (0 : Int32) → (g_advanceRings_24 n (i + 1) x9 u)) ∧ (¬ (u 31 i) = (0 : Int32) → ((vp_in (u 30 i) 8) ∧ (g_advanceRings_24 n (i + 1) x9 (f_R_advanceEnding u i ((u 30 i).toNatClampNeg))))))))
set_option maxRecDepth 20000 in
set_option maxHeartbeats 1000000 in
theorem w_advanceRings_24 {F : St} (B : jk_BV p l e R s m args below meth c cX3_advanceRings 4 RX3 TT D clA (tyl z) (cW z a) A Q rm_advanceRings F)  : ∀ (n i : Nat) (x9 : Int32) (u : St), i + n = 2 → f_advanceRings_24 n i x9 u = F → g_advanceRings_24 n i x9 u → JJ p l e R s m args below meth c 0 0 4 D clA (cW z a) A Q 24 [(2, .int (nI i)), (1, .int x9), (0, .ref (a 0))] u [] := by
  have C := B.1
  intro n
  induction n with
  | zero =>
    intro i x9 u hin hE hG
    obtain rfl : i = 2 := by omega
    have hge : (2 : Int32) ≤ nI 2 := by decide
    refine j_iload_n C 0 dX3_advanceRings_24 rfl ?_
    refine j_iconst C 2 dX3_advanceRings_25 ic_2 ?_
    refine j_icmp_ge C 87 dX3_advanceRings_26 (by decide) (fun _ => ?_) (fun hq => absurd hge hq)
    exact B.2.2 _ _ _ dX3_advanceRings_87 hE
  | succ n ih =>
    intro i x9 u hin hE hG
    have hlt : i < 2 := by omega
    have hnge : ¬ (2 : Int32) ≤ nI i := lt2 i hlt
    refine j_iload_n C 0 dX3_advanceRings_24 rfl ?_
    refine j_iconst C 2 dX3_advanceRings_25 ic_2 ?_
    refine j_icmp_ge C 87 dX3_advanceRings_26 (by decide) (fun hq => absurd hq hnge) (fun _ => ?_)
    refine j_aload_n C 2 dX3_advanceRings_29 rfl ?_
    refine j_get C kf_3 0 pl_desk 1 (by decide) lk_3_18 rfl dX3_advanceRings_30 ?_
    refine j_iload_n C 0 dX3_advanceRings_33 rfl ?_
    refine j_aald C 2 3 pl_rgs rfl i rfl hlt (by decide) rfl dX3_advanceRings_34 ?_
    refine j_astore_n C dX3_advanceRings_35 (by decide) rfl ?_
    refine j_aload_n C 0 dX3_advanceRings_36 rfl ?_
    refine j_get C kf_2 (23 + i) (pl_rg hlt) 3 (by decide) lk_3_140 rfl dX3_advanceRings_37 ?_
    refine j_iconst C 1 dX3_advanceRings_40 ic_1 ?_
    refine j_icmp_ne C 61 dX3_advanceRings_41 (by decide) (fun c1 => ?_) (fun c1 => ?_)
    · have hE := (if_neg c1).symm.trans hE
      have hG := hG.2 c1
      refine j_aload_n C 0 dX3_advanceRings_61 rfl ?_
      refine j_get C kf_2 (23 + i) (pl_rg hlt) 3 (by decide) lk_3_140 rfl dX3_advanceRings_62 ?_
      refine j_if_eq C 81 dX3_advanceRings_65 (by decide) (fun c2 => ?_) (fun c2 => ?_)
      · have hE := (if_pos c2).symm.trans hE
        have hG := hG.1 c2
        refine j_iinc C 1 (nI (i + 1)) dX3_advanceRings_81 rfl (nI_1 _) (by decide) rfl ?_
        refine j_goto C 24 dX3_advanceRings_84 (by decide) ?_
        refine j_lv [0, 2, 3] rfl ?_
        exact ih (i + 1) x9 u (by omega) hE hG
      · have hE := (if_neg c2).symm.trans hE
        have hG := hG.2 c2
        refine j_aload_n C 0 dX3_advanceRings_68 rfl ?_
        refine j_aload_n C 3 dX3_advanceRings_69 rfl ?_
        refine j_get C kf_3 0 pl_desk 0 (by decide) lk_3_11 rfl dX3_advanceRings_70 ?_
        refine j_aload_n C 0 dX3_advanceRings_73 rfl ?_
        refine j_get C kf_2 (23 + i) (pl_rg hlt) 2 (by decide) lk_3_137 rfl dX3_advanceRings_74 ?_
        obtain ⟨hv3, hG⟩ := hG
        have lhv3 := jk_lt hv3
        refine j_aald C 1 2 pl_mvs rfl ((u 30 i).toNatClampNeg) (jk_self hv3 (by decide)) (jk_lt hv3) (by decide) rfl dX3_advanceRings_77 ?_
        refine j_cVV C B.2.1 (c_R_advanceEnding l D z a u i ((u 30 i).toNatClampNeg) hlt (jk_lt hv3)) gv_3_205 dd_R_advanceEnding ⟨⟨rfl, rfl⟩, Nat.le_of_ble_eq_true rfl, Nat.le_of_ble_eq_true rfl⟩ (23 + i) 2 (pl_rg hlt) rfl rfl rfl rfl (Nat.le_of_ble_eq_true rfl) dX3_advanceRings_78 ?_
        refine j_iinc C 1 (nI (i + 1)) dX3_advanceRings_81 rfl (nI_1 _) (by decide) rfl ?_
        refine j_goto C 24 dX3_advanceRings_84 (by decide) ?_
        refine j_lv [0, 2, 3] rfl ?_
        exact ih (i + 1) x9 (f_R_advanceEnding u i ((u 30 i).toNatClampNeg)) (by omega) hE hG
    · have hE := (if_pos c1).symm.trans hE
      have hG := hG.1 c1
      refine j_aload_n C 0 dX3_advanceRings_44 rfl ?_
      refine j_aload_n C 3 dX3_advanceRings_45 rfl ?_
      refine j_get C kf_3 0 pl_desk 0 (by decide) lk_3_11 rfl dX3_advanceRings_46 ?_
      refine j_aload_n C 0 dX3_advanceRings_49 rfl ?_
      refine j_get C kf_2 (23 + i) (pl_rg hlt) 2 (by decide) lk_3_137 rfl dX3_advanceRings_50 ?_
      obtain ⟨hv4, hG⟩ := hG
      have lhv4 := jk_lt hv4
      refine j_aald C 1 2 pl_mvs rfl ((u 30 i).toNatClampNeg) (jk_self hv4 (by decide)) (jk_lt hv4) (by decide) rfl dX3_advanceRings_53 ?_
      refine j_iload_n C 2 dX3_advanceRings_54 rfl ?_
      refine j_cVV C B.2.1 (c_R_advanceGreen l D z a u i ((u 30 i).toNatClampNeg) x9 hlt (jk_lt hv4)) gv_3_201 dd_R_advanceGreen ⟨⟨rfl, rfl⟩, Nat.le_of_ble_eq_true rfl, Nat.le_of_ble_eq_true rfl⟩ (23 + i) 2 (pl_rg hlt) rfl rfl rfl rfl (Nat.le_of_ble_eq_true rfl) dX3_advanceRings_55 ?_
      refine j_goto C 81 dX3_advanceRings_58 (by decide) ?_
      refine j_iinc C 1 (nI (i + 1)) dX3_advanceRings_81 rfl (nI_1 _) (by decide) rfl ?_
      refine j_goto C 24 dX3_advanceRings_84 (by decide) ?_
      refine j_lv [0, 2, 3] rfl ?_
      exact ih (i + 1) x9 (f_R_advanceGreen u i ((u 30 i).toNatClampNeg) x9) (by omega) hE hG
def f_advanceRings (u : St)  : St := (if (f_isAnyCalledOn u (0 : Int32)) = (0 : Int32) then (if (f_isAnyCalledOn u (1 : Int32)) = (0 : Int32) then (f_advanceRings_24 2 0 (0 : Int32) u) else (f_advanceRings_24 2 0 (1 : Int32) u)) else (f_advanceRings_24 2 0 (1 : Int32) u))
def g_advanceRings (u : St)  : Prop := (((f_isAnyCalledOn u (0 : Int32)) = (0 : Int32) → (((f_isAnyCalledOn u (1 : Int32)) = (0 : Int32) → (g_advanceRings_24 2 0 (0 : Int32) u)) ∧ (¬ (f_isAnyCalledOn u (1 : Int32)) = (0 : Int32) → (g_advanceRings_24 2 0 (1 : Int32) u)))) ∧ (¬ (f_isAnyCalledOn u (0 : Int32)) = (0 : Int32) → (g_advanceRings_24 2 0 (1 : Int32) u)))
set_option maxRecDepth 20000 in
set_option maxHeartbeats 1000000 in
theorem w_advanceRings_0 {F : St} {u : St} (B : jk_BV p l e R s m args below meth c cX3_advanceRings 4 RX3 TT D clA (tyl z) (cW z a) A Q rm_advanceRings F)  (hE : f_advanceRings u = F) (hG : g_advanceRings u) : JJ p l e R s m args below meth c 0 0 4 D clA (cW z a) A Q 0 [(0, .ref (a 0))] u [] := by
  have C := B.1
  unfold f_advanceRings at hE
  unfold g_advanceRings at hG
  refine j_aload_n C 0 dX3_advanceRings_0 rfl ?_
  refine j_iconst C 0 dX3_advanceRings_1 ic_0 ?_
  refine j_cIV C B.2.1 (c_isAnyCalledOn l D z a u (0 : Int32)) gv_3_198 dd_isAnyCalledOn ⟨⟨rfl, rfl⟩, Nat.le_of_ble_eq_true rfl, Nat.le_of_ble_eq_true rfl⟩ 0 3 pl_desk rfl rfl rfl rfl (Nat.le_of_ble_eq_true rfl) dX3_advanceRings_2 ?_
  refine j_if_ne C 16 dX3_advanceRings_5 (by decide) (fun c1 => ?_) (fun c1 => ?_)
  · have hE := (if_neg c1).symm.trans hE
    have hG := hG.2 c1
    refine j_iconst C 1 dX3_advanceRings_16 ic_1 ?_
    refine j_goto C 21 dX3_advanceRings_17 (by decide) ?_
    refine j_istore_n C dX3_advanceRings_21 (by decide) rfl ?_
    refine j_iconst C 0 dX3_advanceRings_22 ic_0 ?_
    refine j_istore_n C dX3_advanceRings_23 (by decide) rfl ?_
    refine j_lq (congrArg (fun x => ([(2, .int x), (1, .int 1), (0, .ref (a 0))] : List (Nat × Value))) ix_0) ?_
    exact w_advanceRings_24 B 2 0 (1 : Int32) u (by omega) hE hG
  · have hE := (if_pos c1).symm.trans hE
    have hG := hG.1 c1
    refine j_aload_n C 0 dX3_advanceRings_8 rfl ?_
    refine j_iconst C 1 dX3_advanceRings_9 ic_1 ?_
    refine j_cIV C B.2.1 (c_isAnyCalledOn l D z a u (1 : Int32)) gv_3_198 dd_isAnyCalledOn ⟨⟨rfl, rfl⟩, Nat.le_of_ble_eq_true rfl, Nat.le_of_ble_eq_true rfl⟩ 0 3 pl_desk rfl rfl rfl rfl (Nat.le_of_ble_eq_true rfl) dX3_advanceRings_10 ?_
    refine j_if_eq C 20 dX3_advanceRings_13 (by decide) (fun c2 => ?_) (fun c2 => ?_)
    · have hE := (if_pos c2).symm.trans hE
      have hG := hG.1 c2
      refine j_iconst C 0 dX3_advanceRings_20 ic_0 ?_
      refine j_istore_n C dX3_advanceRings_21 (by decide) rfl ?_
      refine j_iconst C 0 dX3_advanceRings_22 ic_0 ?_
      refine j_istore_n C dX3_advanceRings_23 (by decide) rfl ?_
      refine j_lq (congrArg (fun x => ([(2, .int x), (1, .int 0), (0, .ref (a 0))] : List (Nat × Value))) ix_0) ?_
      exact w_advanceRings_24 B 2 0 (0 : Int32) u (by omega) hE hG
    · have hE := (if_neg c2).symm.trans hE
      have hG := hG.2 c2
      refine j_iconst C 1 dX3_advanceRings_16 ic_1 ?_
      refine j_goto C 21 dX3_advanceRings_17 (by decide) ?_
      refine j_istore_n C dX3_advanceRings_21 (by decide) rfl ?_
      refine j_iconst C 0 dX3_advanceRings_22 ic_0 ?_
      refine j_istore_n C dX3_advanceRings_23 (by decide) rfl ?_
      refine j_lq (congrArg (fun x => ([(2, .int x), (1, .int 1), (0, .ref (a 0))] : List (Nat × Value))) ix_0) ?_
      exact w_advanceRings_24 B 2 0 (1 : Int32) u (by omega) hE hG
theorem c_advanceRings (l : Launch) (D : va_G) (z : Nat → ClassId) (a : Nat → Nat) (u : St)  (hG : g_advanceRings u) : CtV l yX3_advanceRings (.code yX3_advanceRings cX3_advanceRings 4 none :: TT) rm_advanceRings D clA (tyl z) (cW z a) [.ref (a 0)] u (f_advanceRings u) :=
  jk_metV (own := RX3) (by decide) rfl (Nat.le_of_ble_eq_true rfl) (fun _ _ _ _ _ _ _ _ _ _ _ B => w_advanceRings_0 B rfl hG)
end WLK
end
section
section WLK
variable {p : Program} {l : Launch} {e : Env} {R : Room} {s : State} {m : MethodId} {args : Array Value} {below : List Frame} {meth : Method} {c : Code} {D : va_G} {z : Nat → ClassId} {a : Nat → Nat} {A : Nat → Prop} {Q : State → Prop}
def rm_goOnWithinSide : Room := { frames := 4, cells := 0, slots := 0, locals := 85 }
def f_goOnWithinSide_45 (u : St) (r : Nat) : St := (if (f_isIdle u r) = (0 : Int32) then u else (if (u 0 2) = (0 : Int32) then (up2 u 35 r (f_calledOn u r (u 0 1))) else u))
def g_goOnWithinSide_45 (u : St) (r : Nat) : Prop := (((f_isIdle u r) = (0 : Int32) → True) ∧ (¬ (f_isIdle u r) = (0 : Int32) → (((u 0 2) = (0 : Int32) → (g_calledOn u r (u 0 1))) ∧ (¬ (u 0 2) = (0 : Int32) → True))))
set_option maxRecDepth 20000 in
set_option maxHeartbeats 1000000 in
theorem w_goOnWithinSide_45 {F : St} {u : St} (B : jk_BV p l e R s m args below meth c cX3_goOnWithinSide 3 RX3 TT D clA (tyl z) (cW z a) A Q rm_goOnWithinSide F) {r : Nat} (hr : r < 2) (hE : f_goOnWithinSide_45 u r = F) (hG : g_goOnWithinSide_45 u r) : JJ p l e R s m args below meth c 0 0 3 D clA (cW z a) A Q 45 [(0, .ref (a 0)), (1, .ref (a (23 + r)))] u [] := by
  have C := B.1
  unfold f_goOnWithinSide_45 at hE
  unfold g_goOnWithinSide_45 at hG
  refine j_aload_n C 1 dX3_goOnWithinSide_45 rfl ?_
  refine j_cIS C B.2.1 (c_isIdle l D z a u r hr) gv_3_212 dd_isIdle ⟨⟨rfl, rfl⟩, Nat.le_of_ble_eq_true rfl, Nat.le_of_ble_eq_true rfl⟩ rfl rfl (Nat.le_of_ble_eq_true rfl) dX3_goOnWithinSide_46 ?_
  refine j_if_eq C 72 dX3_goOnWithinSide_49 (by decide) (fun c1 => ?_) (fun c1 => ?_)
  · have hE := (if_pos c1).symm.trans hE
    exact B.2.2 _ _ _ dX3_goOnWithinSide_72 hE
  · have hE := (if_neg c1).symm.trans hE
    have hG := hG.2 c1
    refine j_aload_n C 0 dX3_goOnWithinSide_52 rfl ?_
    refine j_get C kf_3 0 pl_desk 6 (by decide) lk_3_103 rfl dX3_goOnWithinSide_53 ?_
    refine j_if_ne C 72 dX3_goOnWithinSide_56 (by decide) (fun c2 => ?_) (fun c2 => ?_)
    · have hE := (if_neg c2).symm.trans hE
      exact B.2.2 _ _ _ dX3_goOnWithinSide_72 hE
    · have hE := (if_pos c2).symm.trans hE
      have hG := hG.1 c2
      refine j_aload_n C 1 dX3_goOnWithinSide_59 rfl ?_
      refine j_aload_n C 0 dX3_goOnWithinSide_60 rfl ?_
      refine j_aload_n C 1 dX3_goOnWithinSide_61 rfl ?_
      refine j_aload_n C 0 dX3_goOnWithinSide_62 rfl ?_
      refine j_get C kf_3 0 pl_desk 5 (by decide) lk_3_106 rfl dX3_goOnWithinSide_63 ?_
      have hg3 := hG
      refine j_cIV C B.2.1 (c_calledOn l D z a u r (u 0 1) hr hg3) gv_3_215 dd_calledOn ⟨⟨rfl, rfl⟩, Nat.le_of_ble_eq_true rfl, Nat.le_of_ble_eq_true rfl⟩ 0 3 pl_desk rfl rfl rfl rfl (Nat.le_of_ble_eq_true rfl) dX3_goOnWithinSide_66 ?_
      refine j_put C kf_2 (23 + r) (pl_rg hr) 7 (by decide) lk_3_100 rfl rfl rfl (Nat.le_of_ble_eq_true rfl) (pu_rg_next hr) dX3_goOnWithinSide_69 ?_
      exact B.2.2 _ _ _ dX3_goOnWithinSide_72 hE
def f_goOnWithinSide (u : St) (r : Nat) : St := (if (f_mayEnd u r) = (0 : Int32) then (f_goOnWithinSide_45 u r) else (if (u 30 r) = (f_R_first u r (u 0 1)) then (if (f_isCalled u ((f_R_second u r (u 0 1)).toNatClampNeg)) = (0 : Int32) then (f_goOnWithinSide_45 u r) else (f_goOnWithinSide_45 (f_R_endGreen u r (f_R_second u r (u 0 1))) r)) else (f_goOnWithinSide_45 u r)))
def g_goOnWithinSide (u : St) (r : Nat) : Prop := ((g_R_second u r (u 0 1)) ∧ ((g_mayEnd u r) ∧ (((f_mayEnd u r) = (0 : Int32) → (g_goOnWithinSide_45 u r)) ∧ (¬ (f_mayEnd u r) = (0 : Int32) → ((g_R_first u r (u 0 1)) ∧ (((u 30 r) = (f_R_first u r (u 0 1)) → ((vp_in (f_R_second u r (u 0 1)) 8) ∧ (((f_isCalled u ((f_R_second u r (u 0 1)).toNatClampNeg)) = (0 : Int32) → (g_goOnWithinSide_45 u r)) ∧ (¬ (f_isCalled u ((f_R_second u r (u 0 1)).toNatClampNeg)) = (0 : Int32) → (g_goOnWithinSide_45 (f_R_endGreen u r (f_R_second u r (u 0 1))) r))))) ∧ (¬ (u 30 r) = (f_R_first u r (u 0 1)) → (g_goOnWithinSide_45 u r))))))))
set_option maxRecDepth 20000 in
set_option maxHeartbeats 1000000 in
theorem w_goOnWithinSide_0 {F : St} {u : St} (B : jk_BV p l e R s m args below meth c cX3_goOnWithinSide 3 RX3 TT D clA (tyl z) (cW z a) A Q rm_goOnWithinSide F) {r : Nat} (hr : r < 2) (hE : f_goOnWithinSide u r = F) (hG : g_goOnWithinSide u r) : JJ p l e R s m args below meth c 0 0 3 D clA (cW z a) A Q 0 [(0, .ref (a 0)), (1, .ref (a (23 + r)))] u [] := by
  have C := B.1
  unfold f_goOnWithinSide at hE
  unfold g_goOnWithinSide at hG
  refine j_aload_n C 1 dX3_goOnWithinSide_0 rfl ?_
  refine j_aload_n C 0 dX3_goOnWithinSide_1 rfl ?_
  refine j_get C kf_3 0 pl_desk 5 (by decide) lk_3_106 rfl dX3_goOnWithinSide_2 ?_
  obtain ⟨hg1, hG⟩ := hG
  refine j_cIV C B.2.1 (c_R_second l D z a u r (u 0 1) hr hg1) gv_3_63 dd_R_second ⟨⟨rfl, rfl⟩, Nat.le_of_ble_eq_true rfl, Nat.le_of_ble_eq_true rfl⟩ (23 + r) 2 (pl_rg hr) rfl rfl rfl rfl (Nat.le_of_ble_eq_true rfl) dX3_goOnWithinSide_5 ?_
  refine j_istore_n C dX3_goOnWithinSide_8 (by decide) rfl ?_
  refine j_aload_n C 1 dX3_goOnWithinSide_9 rfl ?_
  refine j_aload_n C 2 dX3_goOnWithinSide_10 rfl ?_
  obtain ⟨hg2, hG⟩ := hG
  refine j_cIV C B.2.1 (c_mayEnd l D z a u r hr hg2) gv_3_152 dd_mayEnd ⟨⟨rfl, rfl⟩, Nat.le_of_ble_eq_true rfl, Nat.le_of_ble_eq_true rfl⟩ 0 3 pl_desk rfl rfl rfl rfl (Nat.le_of_ble_eq_true rfl) dX3_goOnWithinSide_11 ?_
  refine j_if_eq C 45 dX3_goOnWithinSide_14 (by decide) (fun c3 => ?_) (fun c3 => ?_)
  · have hE := (if_pos c3).symm.trans hE
    have hG := hG.1 c3
    refine j_lv [1, 2] rfl ?_
    exact w_goOnWithinSide_45 B hr hE hG
  · have hE := (if_neg c3).symm.trans hE
    have hG := hG.2 c3
    refine j_aload_n C 2 dX3_goOnWithinSide_17 rfl ?_
    refine j_get C kf_2 (23 + r) (pl_rg hr) 2 (by decide) lk_3_137 rfl dX3_goOnWithinSide_18 ?_
    refine j_aload_n C 2 dX3_goOnWithinSide_21 rfl ?_
    refine j_aload_n C 1 dX3_goOnWithinSide_22 rfl ?_
    refine j_get C kf_3 0 pl_desk 5 (by decide) lk_3_106 rfl dX3_goOnWithinSide_23 ?_
    obtain ⟨hg4, hG⟩ := hG
    refine j_cIV C B.2.1 (c_R_first l D z a u r (u 0 1) hr hg4) gv_3_56 dd_R_first ⟨⟨rfl, rfl⟩, Nat.le_of_ble_eq_true rfl, Nat.le_of_ble_eq_true rfl⟩ (23 + r) 2 (pl_rg hr) rfl rfl rfl rfl (Nat.le_of_ble_eq_true rfl) dX3_goOnWithinSide_26 ?_
    refine j_icmp_ne C 45 dX3_goOnWithinSide_29 (by decide) (fun c5 => ?_) (fun c5 => ?_)
    · have hE := (if_neg c5).symm.trans hE
      have hG := hG.2 c5
      refine j_lv [1, 2] rfl ?_
      exact w_goOnWithinSide_45 B hr hE hG
    · have hE := (if_pos c5).symm.trans hE
      have hG := hG.1 c5
      refine j_aload_n C 1 dX3_goOnWithinSide_32 rfl ?_
      refine j_iload_n C 0 dX3_goOnWithinSide_33 rfl ?_
      obtain ⟨hv6, hG⟩ := hG
      have lhv6 := jk_lt hv6
      refine j_st (st' := [.int (nI ((f_R_second u r (u 0 1)).toNatClampNeg)), .ref (a 0)]) (congrArg (fun x => ([.int x, .ref (a 0)] : List Value)) (jk_self hv6 (by decide))) ?_
      refine j_cIV C B.2.1 (c_isCalled l D z a u ((f_R_second u r (u 0 1)).toNatClampNeg) (jk_lt hv6)) gv_3_121 dd_isCalled ⟨⟨rfl, rfl⟩, Nat.le_of_ble_eq_true rfl, Nat.le_of_ble_eq_true rfl⟩ 0 3 pl_desk rfl rfl rfl rfl (Nat.le_of_ble_eq_true rfl) dX3_goOnWithinSide_34 ?_
      refine j_if_eq C 45 dX3_goOnWithinSide_37 (by decide) (fun c7 => ?_) (fun c7 => ?_)
      · have hE := (if_pos c7).symm.trans hE
        have hG := hG.1 c7
        refine j_lv [1, 2] rfl ?_
        exact w_goOnWithinSide_45 B hr hE hG
      · have hE := (if_neg c7).symm.trans hE
        have hG := hG.2 c7
        refine j_aload_n C 2 dX3_goOnWithinSide_40 rfl ?_
        refine j_iload_n C 0 dX3_goOnWithinSide_41 rfl ?_
        refine j_cVV C B.2.1 (c_R_endGreen l D z a u r (f_R_second u r (u 0 1)) hr) gv_3_209 dd_R_endGreen ⟨⟨rfl, rfl⟩, Nat.le_of_ble_eq_true rfl, Nat.le_of_ble_eq_true rfl⟩ (23 + r) 2 (pl_rg hr) rfl rfl rfl rfl (Nat.le_of_ble_eq_true rfl) dX3_goOnWithinSide_42 ?_
        refine j_lv [1, 2] rfl ?_
        exact w_goOnWithinSide_45 B hr hE hG
theorem c_goOnWithinSide (l : Launch) (D : va_G) (z : Nat → ClassId) (a : Nat → Nat) (u : St) (r : Nat) (hr : r < 2) (hG : g_goOnWithinSide u r) : CtV l yX3_goOnWithinSide (.code yX3_goOnWithinSide cX3_goOnWithinSide 3 none :: TT) rm_goOnWithinSide D clA (tyl z) (cW z a) [.ref (a 0), .ref (a (23 + r))] u (f_goOnWithinSide u r) :=
  jk_metV (own := RX3) (by decide) rfl (Nat.le_of_ble_eq_true rfl) (fun _ _ _ _ _ _ _ _ _ _ _ B => w_goOnWithinSide_0 B hr rfl hG)
def rm_turnBackToFirst : Room := { frames := 3, cells := 0, slots := 0, locals := 63 }
def f_turnBackToFirst (u : St) (r : Nat) : St := (if (f_mayEnd u r) = (0 : Int32) then u else (if (u 30 r) = (f_R_second u r (u 0 1)) then (if (f_isCalled u ((f_R_first u r (u 0 1)).toNatClampNeg)) = (0 : Int32) then u else (f_R_endGreen u r (f_R_first u r (u 0 1)))) else u))
def g_turnBackToFirst (u : St) (r : Nat) : Prop := ((g_R_first u r (u 0 1)) ∧ ((g_mayEnd u r) ∧ (((f_mayEnd u r) = (0 : Int32) → True) ∧ (¬ (f_mayEnd u r) = (0 : Int32) → ((g_R_second u r (u 0 1)) ∧ (((u 30 r) = (f_R_second u r (u 0 1)) → (vp_in (f_R_first u r (u 0 1)) 8)) ∧ (¬ (u 30 r) = (f_R_second u r (u 0 1)) → True)))))))
set_option maxRecDepth 20000 in
set_option maxHeartbeats 1000000 in
theorem w_turnBackToFirst_0 {F : St} {u : St} (B : jk_BV p l e R s m args below meth c cX3_turnBackToFirst 3 RX3 TT D clA (tyl z) (cW z a) A Q rm_turnBackToFirst F) {r : Nat} (hr : r < 2) (hE : f_turnBackToFirst u r = F) (hG : g_turnBackToFirst u r) : JJ p l e R s m args below meth c 0 0 3 D clA (cW z a) A Q 0 [(0, .ref (a 0)), (1, .ref (a (23 + r)))] u [] := by
  have C := B.1
  unfold f_turnBackToFirst at hE
  unfold g_turnBackToFirst at hG
  refine j_aload_n C 1 dX3_turnBackToFirst_0 rfl ?_
  refine j_aload_n C 0 dX3_turnBackToFirst_1 rfl ?_
  refine j_get C kf_3 0 pl_desk 5 (by decide) lk_3_106 rfl dX3_turnBackToFirst_2 ?_
  obtain ⟨hg1, hG⟩ := hG
  refine j_cIV C B.2.1 (c_R_first l D z a u r (u 0 1) hr hg1) gv_3_56 dd_R_first ⟨⟨rfl, rfl⟩, Nat.le_of_ble_eq_true rfl, Nat.le_of_ble_eq_true rfl⟩ (23 + r) 2 (pl_rg hr) rfl rfl rfl rfl (Nat.le_of_ble_eq_true rfl) dX3_turnBackToFirst_5 ?_
  refine j_istore_n C dX3_turnBackToFirst_8 (by decide) rfl ?_
  refine j_aload_n C 1 dX3_turnBackToFirst_9 rfl ?_
  refine j_aload_n C 2 dX3_turnBackToFirst_10 rfl ?_
  obtain ⟨hg2, hG⟩ := hG
  refine j_cIV C B.2.1 (c_mayEnd l D z a u r hr hg2) gv_3_152 dd_mayEnd ⟨⟨rfl, rfl⟩, Nat.le_of_ble_eq_true rfl, Nat.le_of_ble_eq_true rfl⟩ 0 3 pl_desk rfl rfl rfl rfl (Nat.le_of_ble_eq_true rfl) dX3_turnBackToFirst_11 ?_
  refine j_if_eq C 45 dX3_turnBackToFirst_14 (by decide) (fun c3 => ?_) (fun c3 => ?_)
  · have hE := (if_pos c3).symm.trans hE
    exact B.2.2 _ _ _ dX3_turnBackToFirst_45 hE
  · have hE := (if_neg c3).symm.trans hE
    have hG := hG.2 c3
    refine j_aload_n C 2 dX3_turnBackToFirst_17 rfl ?_
    refine j_get C kf_2 (23 + r) (pl_rg hr) 2 (by decide) lk_3_137 rfl dX3_turnBackToFirst_18 ?_
    refine j_aload_n C 2 dX3_turnBackToFirst_21 rfl ?_
    refine j_aload_n C 1 dX3_turnBackToFirst_22 rfl ?_
    refine j_get C kf_3 0 pl_desk 5 (by decide) lk_3_106 rfl dX3_turnBackToFirst_23 ?_
    obtain ⟨hg4, hG⟩ := hG
    refine j_cIV C B.2.1 (c_R_second l D z a u r (u 0 1) hr hg4) gv_3_63 dd_R_second ⟨⟨rfl, rfl⟩, Nat.le_of_ble_eq_true rfl, Nat.le_of_ble_eq_true rfl⟩ (23 + r) 2 (pl_rg hr) rfl rfl rfl rfl (Nat.le_of_ble_eq_true rfl) dX3_turnBackToFirst_26 ?_
    refine j_icmp_ne C 45 dX3_turnBackToFirst_29 (by decide) (fun c5 => ?_) (fun c5 => ?_)
    · have hE := (if_neg c5).symm.trans hE
      exact B.2.2 _ _ _ dX3_turnBackToFirst_45 hE
    · have hE := (if_pos c5).symm.trans hE
      have hG := hG.1 c5
      refine j_aload_n C 1 dX3_turnBackToFirst_32 rfl ?_
      refine j_iload_n C 0 dX3_turnBackToFirst_33 rfl ?_
      have hv6 := hG
      have lhv6 := jk_lt hv6
      refine j_st (st' := [.int (nI ((f_R_first u r (u 0 1)).toNatClampNeg)), .ref (a 0)]) (congrArg (fun x => ([.int x, .ref (a 0)] : List Value)) (jk_self hv6 (by decide))) ?_
      refine j_cIV C B.2.1 (c_isCalled l D z a u ((f_R_first u r (u 0 1)).toNatClampNeg) (jk_lt hv6)) gv_3_121 dd_isCalled ⟨⟨rfl, rfl⟩, Nat.le_of_ble_eq_true rfl, Nat.le_of_ble_eq_true rfl⟩ 0 3 pl_desk rfl rfl rfl rfl (Nat.le_of_ble_eq_true rfl) dX3_turnBackToFirst_34 ?_
      refine j_if_eq C 45 dX3_turnBackToFirst_37 (by decide) (fun c7 => ?_) (fun c7 => ?_)
      · have hE := (if_pos c7).symm.trans hE
        exact B.2.2 _ _ _ dX3_turnBackToFirst_45 hE
      · have hE := (if_neg c7).symm.trans hE
        refine j_aload_n C 2 dX3_turnBackToFirst_40 rfl ?_
        refine j_iload_n C 0 dX3_turnBackToFirst_41 rfl ?_
        refine j_cVV C B.2.1 (c_R_endGreen l D z a u r (f_R_first u r (u 0 1)) hr) gv_3_209 dd_R_endGreen ⟨⟨rfl, rfl⟩, Nat.le_of_ble_eq_true rfl, Nat.le_of_ble_eq_true rfl⟩ (23 + r) 2 (pl_rg hr) rfl rfl rfl rfl (Nat.le_of_ble_eq_true rfl) dX3_turnBackToFirst_42 ?_
        exact B.2.2 _ _ _ dX3_turnBackToFirst_45 hE
theorem c_turnBackToFirst (l : Launch) (D : va_G) (z : Nat → ClassId) (a : Nat → Nat) (u : St) (r : Nat) (hr : r < 2) (hG : g_turnBackToFirst u r) : CtV l yX3_turnBackToFirst (.code yX3_turnBackToFirst cX3_turnBackToFirst 3 none :: TT) rm_turnBackToFirst D clA (tyl z) (cW z a) [.ref (a 0), .ref (a (23 + r))] u (f_turnBackToFirst u r) :=
  jk_metV (own := RX3) (by decide) rfl (Nat.le_of_ble_eq_true rfl) (fun _ _ _ _ _ _ _ _ _ _ _ B => w_turnBackToFirst_0 B hr rfl hG)
def rm_beginCrossing : Room := { frames := 2, cells := 0, slots := 0, locals := 42 }
def f_beginCrossing_17  : Nat → Nat → St → St
  | 0, i, u => u
  | n + 1, i, u => (if (u 31 i) = (1 : Int32) then (f_beginCrossing_17 n (i + 1) (f_R_endGreen u i (-1 : Int32))) else (f_beginCrossing_17 n (i + 1) u))
set_option maxRecDepth 20000 in
set_option maxHeartbeats 1000000 in
theorem w_beginCrossing_17 {F : St} (B : jk_BV p l e R s m args below meth c cX3_beginCrossing 2 RX3 TT D clA (tyl z) (cW z a) A Q rm_beginCrossing F)  : ∀ (n i : Nat) (u : St), i + n = 2 → f_beginCrossing_17 n i u = F → JJ p l e R s m args below meth c 0 0 2 D clA (cW z a) A Q 17 [(1, .int (nI i)), (0, .ref (a 0))] u [] := by
  have C := B.1
  intro n
  induction n with
  | zero =>
    intro i u hin hE
    obtain rfl : i = 2 := by omega
    have hge : (2 : Int32) ≤ nI 2 := by decide
    refine j_iload_n C 0 dX3_beginCrossing_17 rfl ?_
    refine j_iconst C 2 dX3_beginCrossing_18 ic_2 ?_
    refine j_icmp_ge C 51 dX3_beginCrossing_19 (by decide) (fun _ => ?_) (fun hq => absurd hge hq)
    exact B.2.2 _ _ _ dX3_beginCrossing_51 hE
  | succ n ih =>
    intro i u hin hE
    have hlt : i < 2 := by omega
    have hnge : ¬ (2 : Int32) ≤ nI i := lt2 i hlt
    refine j_iload_n C 0 dX3_beginCrossing_17 rfl ?_
    refine j_iconst C 2 dX3_beginCrossing_18 ic_2 ?_
    refine j_icmp_ge C 51 dX3_beginCrossing_19 (by decide) (fun hq => absurd hq hnge) (fun _ => ?_)
    refine j_aload_n C 1 dX3_beginCrossing_22 rfl ?_
    refine j_get C kf_3 0 pl_desk 1 (by decide) lk_3_18 rfl dX3_beginCrossing_23 ?_
    refine j_iload_n C 0 dX3_beginCrossing_26 rfl ?_
    refine j_aald C 2 3 pl_rgs rfl i rfl hlt (by decide) rfl dX3_beginCrossing_27 ?_
    refine j_get C kf_2 (23 + i) (pl_rg hlt) 3 (by decide) lk_3_140 rfl dX3_beginCrossing_28 ?_
    refine j_iconst C 1 dX3_beginCrossing_31 ic_1 ?_
    refine j_icmp_ne C 45 dX3_beginCrossing_32 (by decide) (fun c1 => ?_) (fun c1 => ?_)
    · have hE := (if_neg c1).symm.trans hE
      refine j_iinc C 0 (nI (i + 1)) dX3_beginCrossing_45 rfl (nI_1 _) (by decide) rfl ?_
      refine j_goto C 17 dX3_beginCrossing_48 (by decide) ?_
      exact ih (i + 1) u (by omega) hE
    · have hE := (if_pos c1).symm.trans hE
      refine j_aload_n C 1 dX3_beginCrossing_35 rfl ?_
      refine j_get C kf_3 0 pl_desk 1 (by decide) lk_3_18 rfl dX3_beginCrossing_36 ?_
      refine j_iload_n C 0 dX3_beginCrossing_39 rfl ?_
      refine j_aald C 2 3 pl_rgs rfl i rfl hlt (by decide) rfl dX3_beginCrossing_40 ?_
      refine j_iconst C (-1) dX3_beginCrossing_41 ic_m1 ?_
      refine j_cVV C B.2.1 (c_R_endGreen l D z a u i (-1 : Int32) hlt) gv_3_209 dd_R_endGreen ⟨⟨rfl, rfl⟩, Nat.le_of_ble_eq_true rfl, Nat.le_of_ble_eq_true rfl⟩ (23 + i) 2 (pl_rg hlt) rfl rfl rfl rfl (Nat.le_of_ble_eq_true rfl) dX3_beginCrossing_42 ?_
      refine j_iinc C 0 (nI (i + 1)) dX3_beginCrossing_45 rfl (nI_1 _) (by decide) rfl ?_
      refine j_goto C 17 dX3_beginCrossing_48 (by decide) ?_
      exact ih (i + 1) (f_R_endGreen u i (-1 : Int32)) (by omega) hE
def f_beginCrossing (u : St)  : St := (f_beginCrossing_17 2 0 (up2 (up2 u 0 2 (1 : Int32)) 0 3 (((up2 u 0 2 (1 : Int32)) 0 3) + (1 : Int32))))
set_option maxRecDepth 20000 in
set_option maxHeartbeats 1000000 in
theorem w_beginCrossing_0 {F : St} {u : St} (B : jk_BV p l e R s m args below meth c cX3_beginCrossing 2 RX3 TT D clA (tyl z) (cW z a) A Q rm_beginCrossing F)  (hE : f_beginCrossing u = F) : JJ p l e R s m args below meth c 0 0 2 D clA (cW z a) A Q 0 [(0, .ref (a 0))] u [] := by
  have C := B.1
  unfold f_beginCrossing at hE
  refine j_aload_n C 0 dX3_beginCrossing_0 rfl ?_
  refine j_iconst C 1 dX3_beginCrossing_1 ic_1 ?_
  refine j_put C kf_3 0 pl_desk 6 (by decide) lk_3_103 rfl rfl rfl (Nat.le_of_ble_eq_true rfl) pu_desk_crossing dX3_beginCrossing_2 ?_
  refine j_aload_n C 0 dX3_beginCrossing_5 rfl ?_
  refine j_dup C dX3_beginCrossing_6 rfl ?_
  refine j_get C kf_3 0 pl_desk 7 (by decide) lk_3_162 rfl dX3_beginCrossing_7 ?_
  refine j_iconst C 1 dX3_beginCrossing_10 ic_1 ?_
  refine j_iadd C dX3_beginCrossing_11 ?_
  refine j_put C kf_3 0 pl_desk 7 (by decide) lk_3_162 rfl rfl rfl (Nat.le_of_ble_eq_true rfl) pu_desk_crossings dX3_beginCrossing_12 ?_
  refine j_iconst C 0 dX3_beginCrossing_15 ic_0 ?_
  refine j_istore_n C dX3_beginCrossing_16 (by decide) rfl ?_
  refine j_lq (congrArg (fun x => ([(1, .int x), (0, .ref (a 0))] : List (Nat × Value))) ix_0) ?_
  exact w_beginCrossing_17 B 2 0 (up2 (up2 u 0 2 (1 : Int32)) 0 3 (((up2 u 0 2 (1 : Int32)) 0 3) + (1 : Int32))) (by omega) hE
theorem c_beginCrossing (l : Launch) (D : va_G) (z : Nat → ClassId) (a : Nat → Nat) (u : St)  : CtV l yX3_beginCrossing (.code yX3_beginCrossing cX3_beginCrossing 2 none :: TT) rm_beginCrossing D clA (tyl z) (cW z a) [.ref (a 0)] u (f_beginCrossing u) :=
  jk_metV (own := RX3) (by decide) rfl (Nat.le_of_ble_eq_true rfl) (fun _ _ _ _ _ _ _ _ _ _ _ B => w_beginCrossing_0 B rfl)
def rm_leaveSideOrTurnBack : Room := { frames := 4, cells := 0, slots := 0, locals := 85 }
def f_leaveSideOrTurnBack_23  : Nat → Nat → St → St
  | 0, i, u => u
  | n + 1, i, u => (f_leaveSideOrTurnBack_23 n (i + 1) (f_turnBackToFirst u i))
def g_leaveSideOrTurnBack_23  : Nat → Nat → St → Prop
  | 0, i, u => True
  | n + 1, i, u => ((g_turnBackToFirst u i) ∧ (g_leaveSideOrTurnBack_23 n (i + 1) (f_turnBackToFirst u i)))
set_option maxRecDepth 20000 in
set_option maxHeartbeats 1000000 in
theorem w_leaveSideOrTurnBack_23 {F : St} (B : jk_BV p l e R s m args below meth c cX3_leaveSideOrTurnBack 2 RX3 TT D clA (tyl z) (cW z a) A Q rm_leaveSideOrTurnBack F)  : ∀ (n i : Nat) (u : St), i + n = 2 → f_leaveSideOrTurnBack_23 n i u = F → g_leaveSideOrTurnBack_23 n i u → JJ p l e R s m args below meth c 0 0 2 D clA (cW z a) A Q 23 [(1, .int (nI i)), (0, .ref (a 0))] u [] := by
  have C := B.1
  intro n
  induction n with
  | zero =>
    intro i u hin hE hG
    obtain rfl : i = 2 := by omega
    have hge : (2 : Int32) ≤ nI 2 := by decide
    refine j_iload_n C 0 dX3_leaveSideOrTurnBack_23 rfl ?_
    refine j_iconst C 2 dX3_leaveSideOrTurnBack_24 ic_2 ?_
    refine j_icmp_ge C 44 dX3_leaveSideOrTurnBack_25 (by decide) (fun _ => ?_) (fun hq => absurd hge hq)
    refine j_goto C 77 dX3_leaveSideOrTurnBack_44 (by decide) ?_
    exact B.2.2 _ _ _ dX3_leaveSideOrTurnBack_77 hE
  | succ n ih =>
    intro i u hin hE hG
    have hlt : i < 2 := by omega
    have hnge : ¬ (2 : Int32) ≤ nI i := lt2 i hlt
    refine j_iload_n C 0 dX3_leaveSideOrTurnBack_23 rfl ?_
    refine j_iconst C 2 dX3_leaveSideOrTurnBack_24 ic_2 ?_
    refine j_icmp_ge C 44 dX3_leaveSideOrTurnBack_25 (by decide) (fun hq => absurd hq hnge) (fun _ => ?_)
    refine j_aload_n C 1 dX3_leaveSideOrTurnBack_28 rfl ?_
    refine j_aload_n C 1 dX3_leaveSideOrTurnBack_29 rfl ?_
    refine j_get C kf_3 0 pl_desk 1 (by decide) lk_3_18 rfl dX3_leaveSideOrTurnBack_30 ?_
    refine j_iload_n C 0 dX3_leaveSideOrTurnBack_33 rfl ?_
    refine j_aald C 2 3 pl_rgs rfl i rfl hlt (by decide) rfl dX3_leaveSideOrTurnBack_34 ?_
    obtain ⟨hg1, hG⟩ := hG
    refine j_cVV C B.2.1 (c_turnBackToFirst l D z a u i hlt hg1) gv_3_219 dd_turnBackToFirst ⟨⟨rfl, rfl⟩, Nat.le_of_ble_eq_true rfl, Nat.le_of_ble_eq_true rfl⟩ 0 3 pl_desk rfl rfl rfl rfl (Nat.le_of_ble_eq_true rfl) dX3_leaveSideOrTurnBack_35 ?_
    refine j_iinc C 0 (nI (i + 1)) dX3_leaveSideOrTurnBack_38 rfl (nI_1 _) (by decide) rfl ?_
    refine j_goto C 23 dX3_leaveSideOrTurnBack_41 (by decide) ?_
    exact ih (i + 1) (f_turnBackToFirst u i) (by omega) hE hG
def f_leaveSideOrTurnBack (u : St)  : St := (if (u 0 2) = (0 : Int32) then (if (f_isAnyCalledOn u ((1 : Int32) - (u 0 1))) = (0 : Int32) then (f_leaveSideOrTurnBack_23 2 0 u) else (if (f_isReady u 0) = (0 : Int32) then u else (if (f_isReady u 1) = (0 : Int32) then u else (f_beginCrossing u)))) else u)
def g_leaveSideOrTurnBack (u : St)  : Prop := (((u 0 2) = (0 : Int32) → (((f_isAnyCalledOn u ((1 : Int32) - (u 0 1))) = (0 : Int32) → (g_leaveSideOrTurnBack_23 2 0 u)) ∧ (¬ (f_isAnyCalledOn u ((1 : Int32) - (u 0 1))) = (0 : Int32) → ((g_isReady u 0) ∧ (((f_isReady u 0) = (0 : Int32) → True) ∧ (¬ (f_isReady u 0) = (0 : Int32) → (g_isReady u 1))))))) ∧ (¬ (u 0 2) = (0 : Int32) → True))
set_option maxRecDepth 20000 in
set_option maxHeartbeats 1000000 in
theorem w_leaveSideOrTurnBack_0 {F : St} {u : St} (B : jk_BV p l e R s m args below meth c cX3_leaveSideOrTurnBack 2 RX3 TT D clA (tyl z) (cW z a) A Q rm_leaveSideOrTurnBack F)  (hE : f_leaveSideOrTurnBack u = F) (hG : g_leaveSideOrTurnBack u) : JJ p l e R s m args below meth c 0 0 2 D clA (cW z a) A Q 0 [(0, .ref (a 0))] u [] := by
  have C := B.1
  unfold f_leaveSideOrTurnBack at hE
  unfold g_leaveSideOrTurnBack at hG
  refine j_aload_n C 0 dX3_leaveSideOrTurnBack_0 rfl ?_
  refine j_get C kf_3 0 pl_desk 6 (by decide) lk_3_103 rfl dX3_leaveSideOrTurnBack_1 ?_
  refine j_if_eq C 8 dX3_leaveSideOrTurnBack_4 (by decide) (fun c1 => ?_) (fun c1 => ?_)
  · have hE := (if_pos c1).symm.trans hE
    have hG := hG.1 c1
    refine j_aload_n C 0 dX3_leaveSideOrTurnBack_8 rfl ?_
    refine j_iconst C 1 dX3_leaveSideOrTurnBack_9 ic_1 ?_
    refine j_aload_n C 0 dX3_leaveSideOrTurnBack_10 rfl ?_
    refine j_get C kf_3 0 pl_desk 5 (by decide) lk_3_106 rfl dX3_leaveSideOrTurnBack_11 ?_
    refine j_isub C dX3_leaveSideOrTurnBack_14 ?_
    refine j_cIV C B.2.1 (c_isAnyCalledOn l D z a u ((1 : Int32) - (u 0 1))) gv_3_198 dd_isAnyCalledOn ⟨⟨rfl, rfl⟩, Nat.le_of_ble_eq_true rfl, Nat.le_of_ble_eq_true rfl⟩ 0 3 pl_desk rfl rfl rfl rfl (Nat.le_of_ble_eq_true rfl) dX3_leaveSideOrTurnBack_15 ?_
    refine j_if_ne C 47 dX3_leaveSideOrTurnBack_18 (by decide) (fun c2 => ?_) (fun c2 => ?_)
    · have hE := (if_neg c2).symm.trans hE
      have hG := hG.2 c2
      refine j_aload_n C 0 dX3_leaveSideOrTurnBack_47 rfl ?_
      refine j_aload_n C 0 dX3_leaveSideOrTurnBack_48 rfl ?_
      refine j_get C kf_3 0 pl_desk 1 (by decide) lk_3_18 rfl dX3_leaveSideOrTurnBack_49 ?_
      refine j_iconst C 0 dX3_leaveSideOrTurnBack_52 ic_0 ?_
      refine j_aald C 2 3 pl_rgs rfl 0 ix_0 (by decide) (by decide) rfl dX3_leaveSideOrTurnBack_53 ?_
      obtain ⟨hg3, hG⟩ := hG
      refine j_cIV C B.2.1 (c_isReady l D z a u 0 (by decide) hg3) gv_3_222 dd_isReady ⟨⟨rfl, rfl⟩, Nat.le_of_ble_eq_true rfl, Nat.le_of_ble_eq_true rfl⟩ 0 3 pl_desk rfl rfl rfl rfl (Nat.le_of_ble_eq_true rfl) dX3_leaveSideOrTurnBack_54 ?_
      refine j_if_eq C 77 dX3_leaveSideOrTurnBack_57 (by decide) (fun c4 => ?_) (fun c4 => ?_)
      · have hE := (if_pos c4).symm.trans hE
        exact B.2.2 _ _ _ dX3_leaveSideOrTurnBack_77 hE
      · have hE := (if_neg c4).symm.trans hE
        have hG := hG.2 c4
        refine j_aload_n C 0 dX3_leaveSideOrTurnBack_60 rfl ?_
        refine j_aload_n C 0 dX3_leaveSideOrTurnBack_61 rfl ?_
        refine j_get C kf_3 0 pl_desk 1 (by decide) lk_3_18 rfl dX3_leaveSideOrTurnBack_62 ?_
        refine j_iconst C 1 dX3_leaveSideOrTurnBack_65 ic_1 ?_
        refine j_aald C 2 3 pl_rgs rfl 1 ix_1 (by decide) (by decide) rfl dX3_leaveSideOrTurnBack_66 ?_
        have hg5 := hG
        refine j_cIV C B.2.1 (c_isReady l D z a u 1 (by decide) hg5) gv_3_222 dd_isReady ⟨⟨rfl, rfl⟩, Nat.le_of_ble_eq_true rfl, Nat.le_of_ble_eq_true rfl⟩ 0 3 pl_desk rfl rfl rfl rfl (Nat.le_of_ble_eq_true rfl) dX3_leaveSideOrTurnBack_67 ?_
        refine j_if_eq C 77 dX3_leaveSideOrTurnBack_70 (by decide) (fun c6 => ?_) (fun c6 => ?_)
        · have hE := (if_pos c6).symm.trans hE
          exact B.2.2 _ _ _ dX3_leaveSideOrTurnBack_77 hE
        · have hE := (if_neg c6).symm.trans hE
          refine j_aload_n C 0 dX3_leaveSideOrTurnBack_73 rfl ?_
          refine j_cVV C B.2.1 (c_beginCrossing l D z a u) gv_3_225 dd_beginCrossing ⟨⟨rfl, rfl⟩, Nat.le_of_ble_eq_true rfl, Nat.le_of_ble_eq_true rfl⟩ 0 3 pl_desk rfl rfl rfl rfl (Nat.le_of_ble_eq_true rfl) dX3_leaveSideOrTurnBack_74 ?_
          exact B.2.2 _ _ _ dX3_leaveSideOrTurnBack_77 hE
    · have hE := (if_pos c2).symm.trans hE
      have hG := hG.1 c2
      refine j_iconst C 0 dX3_leaveSideOrTurnBack_21 ic_0 ?_
      refine j_istore_n C dX3_leaveSideOrTurnBack_22 (by decide) rfl ?_
      refine j_lq (congrArg (fun x => ([(1, .int x), (0, .ref (a 0))] : List (Nat × Value))) ix_0) ?_
      exact w_leaveSideOrTurnBack_23 B 2 0 u (by omega) hE hG
  · have hE := (if_neg c1).symm.trans hE
    exact B.2.2 _ _ _ dX3_leaveSideOrTurnBack_7 hE
theorem c_leaveSideOrTurnBack (l : Launch) (D : va_G) (z : Nat → ClassId) (a : Nat → Nat) (u : St)  (hG : g_leaveSideOrTurnBack u) : CtV l yX3_leaveSideOrTurnBack (.code yX3_leaveSideOrTurnBack cX3_leaveSideOrTurnBack 2 none :: TT) rm_leaveSideOrTurnBack D clA (tyl z) (cW z a) [.ref (a 0)] u (f_leaveSideOrTurnBack u) :=
  jk_metV (own := RX3) (by decide) rfl (Nat.le_of_ble_eq_true rfl) (fun _ _ _ _ _ _ _ _ _ _ _ B => w_leaveSideOrTurnBack_0 B rfl hG)
def rm_endCrossing : Room := { frames := 4, cells := 0, slots := 0, locals := 85 }
def f_endCrossing_17  : Nat → Nat → St → St
  | 0, i, u => u
  | n + 1, i, u => (if (f_calledOn u i (u 0 1)) = (-1 : Int32) then (f_endCrossing_17 n (i + 1) (up2 u 35 i (f_comingAlongOn u i (u 0 1)))) else (f_endCrossing_17 n (i + 1) (up2 u 35 i (f_calledOn u i (u 0 1)))))
def g_endCrossing_17  : Nat → Nat → St → Prop
  | 0, i, u => True
  | n + 1, i, u => ((g_calledOn u i (u 0 1)) ∧ (((f_calledOn u i (u 0 1)) = (-1 : Int32) → ((g_comingAlongOn u i (u 0 1)) ∧ (g_endCrossing_17 n (i + 1) (up2 u 35 i (f_comingAlongOn u i (u 0 1)))))) ∧ (¬ (f_calledOn u i (u 0 1)) = (-1 : Int32) → (g_endCrossing_17 n (i + 1) (up2 u 35 i (f_calledOn u i (u 0 1)))))))
set_option maxRecDepth 20000 in
set_option maxHeartbeats 1000000 in
theorem w_endCrossing_17 {F : St} (B : jk_BV p l e R s m args below meth c cX3_endCrossing 4 RX3 TT D clA (tyl z) (cW z a) A Q rm_endCrossing F)  : ∀ (n i : Nat) (u : St), i + n = 2 → f_endCrossing_17 n i u = F → g_endCrossing_17 n i u → JJ p l e R s m args below meth c 0 0 4 D clA (cW z a) A Q 17 [(1, .int (nI i)), (0, .ref (a 0))] u [] := by
  have C := B.1
  intro n
  induction n with
  | zero =>
    intro i u hin hE hG
    obtain rfl : i = 2 := by omega
    have hge : (2 : Int32) ≤ nI 2 := by decide
    refine j_iload_n C 0 dX3_endCrossing_17 rfl ?_
    refine j_iconst C 2 dX3_endCrossing_18 ic_2 ?_
    refine j_icmp_ge C 67 dX3_endCrossing_19 (by decide) (fun _ => ?_) (fun hq => absurd hge hq)
    exact B.2.2 _ _ _ dX3_endCrossing_67 hE
  | succ n ih =>
    intro i u hin hE hG
    have hlt : i < 2 := by omega
    have hnge : ¬ (2 : Int32) ≤ nI i := lt2 i hlt
    refine j_iload_n C 0 dX3_endCrossing_17 rfl ?_
    refine j_iconst C 2 dX3_endCrossing_18 ic_2 ?_
    refine j_icmp_ge C 67 dX3_endCrossing_19 (by decide) (fun hq => absurd hq hnge) (fun _ => ?_)
    refine j_aload_n C 1 dX3_endCrossing_22 rfl ?_
    refine j_get C kf_3 0 pl_desk 1 (by decide) lk_3_18 rfl dX3_endCrossing_23 ?_
    refine j_iload_n C 0 dX3_endCrossing_26 rfl ?_
    refine j_aald C 2 3 pl_rgs rfl i rfl hlt (by decide) rfl dX3_endCrossing_27 ?_
    refine j_astore_n C dX3_endCrossing_28 (by decide) rfl ?_
    refine j_aload_n C 2 dX3_endCrossing_29 rfl ?_
    refine j_aload_n C 0 dX3_endCrossing_30 rfl ?_
    refine j_aload_n C 2 dX3_endCrossing_31 rfl ?_
    refine j_get C kf_3 0 pl_desk 5 (by decide) lk_3_106 rfl dX3_endCrossing_32 ?_
    obtain ⟨hg1, hG⟩ := hG
    refine j_cIV C B.2.1 (c_calledOn l D z a u i (u 0 1) hlt hg1) gv_3_215 dd_calledOn ⟨⟨rfl, rfl⟩, Nat.le_of_ble_eq_true rfl, Nat.le_of_ble_eq_true rfl⟩ 0 3 pl_desk rfl rfl rfl rfl (Nat.le_of_ble_eq_true rfl) dX3_endCrossing_35 ?_
    refine j_istore_n C dX3_endCrossing_38 (by decide) rfl ?_
    refine j_aload_n C 1 dX3_endCrossing_39 rfl ?_
    refine j_iload_n C 0 dX3_endCrossing_40 rfl ?_
    refine j_iconst C (-1) dX3_endCrossing_41 ic_m1 ?_
    refine j_icmp_eq C 49 dX3_endCrossing_42 (by decide) (fun c2 => ?_) (fun c2 => ?_)
    · have hE := (if_pos c2).symm.trans hE
      have hG := hG.1 c2
      refine j_aload_n C 3 dX3_endCrossing_49 rfl ?_
      refine j_aload_n C 1 dX3_endCrossing_50 rfl ?_
      refine j_aload_n C 3 dX3_endCrossing_51 rfl ?_
      refine j_get C kf_3 0 pl_desk 5 (by decide) lk_3_106 rfl dX3_endCrossing_52 ?_
      obtain ⟨hg3, hG⟩ := hG
      refine j_cIV C B.2.1 (c_comingAlongOn l D z a u i (u 0 1) hlt hg3) gv_3_228 dd_comingAlongOn ⟨⟨rfl, rfl⟩, Nat.le_of_ble_eq_true rfl, Nat.le_of_ble_eq_true rfl⟩ 0 3 pl_desk rfl rfl rfl rfl (Nat.le_of_ble_eq_true rfl) dX3_endCrossing_55 ?_
      refine j_put C kf_2 (23 + i) (pl_rg hlt) 7 (by decide) lk_3_100 rfl rfl rfl (Nat.le_of_ble_eq_true rfl) (pu_rg_next hlt) dX3_endCrossing_58 ?_
      refine j_iinc C 2 (nI (i + 1)) dX3_endCrossing_61 rfl (nI_1 _) (by decide) rfl ?_
      refine j_goto C 17 dX3_endCrossing_64 (by decide) ?_
      refine j_lv [0, 3] rfl ?_
      exact ih (i + 1) (up2 u 35 i (f_comingAlongOn u i (u 0 1))) (by omega) hE hG
    · have hE := (if_neg c2).symm.trans hE
      have hG := hG.2 c2
      refine j_iload_n C 0 dX3_endCrossing_45 rfl ?_
      refine j_goto C 58 dX3_endCrossing_46 (by decide) ?_
      refine j_put C kf_2 (23 + i) (pl_rg hlt) 7 (by decide) lk_3_100 rfl rfl rfl (Nat.le_of_ble_eq_true rfl) (pu_rg_next hlt) dX3_endCrossing_58 ?_
      refine j_iinc C 2 (nI (i + 1)) dX3_endCrossing_61 rfl (nI_1 _) (by decide) rfl ?_
      refine j_goto C 17 dX3_endCrossing_64 (by decide) ?_
      refine j_lv [0, 3] rfl ?_
      exact ih (i + 1) (up2 u 35 i (f_calledOn u i (u 0 1))) (by omega) hE hG
def f_endCrossing (u : St)  : St := (f_endCrossing_17 2 0 (up2 (up2 u 0 2 (0 : Int32)) 0 1 ((1 : Int32) - ((up2 u 0 2 (0 : Int32)) 0 1))))
def g_endCrossing (u : St)  : Prop := (g_endCrossing_17 2 0 (up2 (up2 u 0 2 (0 : Int32)) 0 1 ((1 : Int32) - ((up2 u 0 2 (0 : Int32)) 0 1))))
set_option maxRecDepth 20000 in
set_option maxHeartbeats 1000000 in
theorem w_endCrossing_0 {F : St} {u : St} (B : jk_BV p l e R s m args below meth c cX3_endCrossing 4 RX3 TT D clA (tyl z) (cW z a) A Q rm_endCrossing F)  (hE : f_endCrossing u = F) (hG : g_endCrossing u) : JJ p l e R s m args below meth c 0 0 4 D clA (cW z a) A Q 0 [(0, .ref (a 0))] u [] := by
  have C := B.1
  unfold f_endCrossing at hE
  unfold g_endCrossing at hG
  refine j_aload_n C 0 dX3_endCrossing_0 rfl ?_
  refine j_iconst C 0 dX3_endCrossing_1 ic_0 ?_
  refine j_put C kf_3 0 pl_desk 6 (by decide) lk_3_103 rfl rfl rfl (Nat.le_of_ble_eq_true rfl) pu_desk_crossing dX3_endCrossing_2 ?_
  refine j_aload_n C 0 dX3_endCrossing_5 rfl ?_
  refine j_iconst C 1 dX3_endCrossing_6 ic_1 ?_
  refine j_aload_n C 0 dX3_endCrossing_7 rfl ?_
  refine j_get C kf_3 0 pl_desk 5 (by decide) lk_3_106 rfl dX3_endCrossing_8 ?_
  refine j_isub C dX3_endCrossing_11 ?_
  refine j_put C kf_3 0 pl_desk 5 (by decide) lk_3_106 rfl rfl rfl (Nat.le_of_ble_eq_true rfl) pu_desk_side dX3_endCrossing_12 ?_
  refine j_iconst C 0 dX3_endCrossing_15 ic_0 ?_
  refine j_istore_n C dX3_endCrossing_16 (by decide) rfl ?_
  refine j_lq (congrArg (fun x => ([(1, .int x), (0, .ref (a 0))] : List (Nat × Value))) ix_0) ?_
  exact w_endCrossing_17 B 2 0 (up2 (up2 u 0 2 (0 : Int32)) 0 1 ((1 : Int32) - ((up2 u 0 2 (0 : Int32)) 0 1))) (by omega) hE hG
theorem c_endCrossing (l : Launch) (D : va_G) (z : Nat → ClassId) (a : Nat → Nat) (u : St)  (hG : g_endCrossing u) : CtV l yX3_endCrossing (.code yX3_endCrossing cX3_endCrossing 4 none :: TT) rm_endCrossing D clA (tyl z) (cW z a) [.ref (a 0)] u (f_endCrossing u) :=
  jk_metV (own := RX3) (by decide) rfl (Nat.le_of_ble_eq_true rfl) (fun _ _ _ _ _ _ _ _ _ _ _ B => w_endCrossing_0 B rfl hG)
end WLK
end
section
section WLK
variable {p : Program} {l : Launch} {e : Env} {R : Room} {s : State} {m : MethodId} {args : Array Value} {below : List Frame} {meth : Method} {c : Code} {D : va_G} {z : Nat → ClassId} {a : Nat → Nat} {A : Nat → Prop} {Q : State → Prop}
def rm_beginGreens : Room := { frames := 3, cells := 0, slots := 0, locals := 62 }
def f_beginGreens_4  : Nat → Nat → Int32 → St → Int32 × St
  | 0, i, x9, u => (x9, u)
  | n + 1, i, x9, u => (if (u 31 i) = (0 : Int32) then (if (u 35 i) = (-1 : Int32) then (f_beginGreens_4 n (i + 1) x9 u) else (f_beginGreens_4 n (i + 1) (x9 + 1) (f_M_beginGreen (f_R_beginGreen u i ((u 35 i).toNatClampNeg)) ((u 35 i).toNatClampNeg)))) else (f_beginGreens_4 n (i + 1) x9 u))
def g_beginGreens_4  : Nat → Nat → Int32 → St → Prop
  | 0, i, x9, u => True
  | n + 1, i, x9, u => (((u 31 i) = (0 : Int32) → (((u 35 i) = (-1 : Int32) → (g_beginGreens_4 n (i + 1) x9 u)) ∧ (¬ (u 35 i) = (-1 : Int32) → ((vp_in (u 35 i) 8) ∧ (g_beginGreens_4 n (i + 1) (x9 + 1) (f_M_beginGreen (f_R_beginGreen u i ((u 35 i).toNatClampNeg)) ((u 35 i).toNatClampNeg))))))) ∧ (¬ (u 31 i) = (0 : Int32) → (g_beginGreens_4 n (i + 1) x9 u)))
set_option maxRecDepth 20000 in
set_option maxHeartbeats 1000000 in
theorem w_beginGreens_4 {F : Int32 × St} (B : jk_BI p l e R s m args below meth c cX3_beginGreens 5 RX3 TT .int D clA (tyl z) (cW z a) A Q rm_beginGreens F)  : ∀ (n i : Nat) (x9 : Int32) (u : St), i + n = 2 → f_beginGreens_4 n i x9 u = F → g_beginGreens_4 n i x9 u → JJ p l e R s m args below meth c 0 0 5 D clA (cW z a) A Q 4 [(2, .int (nI i)), (1, .int x9), (0, .ref (a 0))] u [] := by
  have C := B.1
  intro n
  induction n with
  | zero =>
    intro i x9 u hin hE hG
    obtain rfl : i = 2 := by omega
    have hge : (2 : Int32) ≤ nI 2 := by decide
    refine j_iload_n C 0 dX3_beginGreens_4 rfl ?_
    refine j_iconst C 2 dX3_beginGreens_5 ic_2 ?_
    refine j_icmp_ge C 62 dX3_beginGreens_6 (by decide) (fun _ => ?_) (fun hq => absurd hge hq)
    refine j_iload_n C 1 dX3_beginGreens_62 rfl ?_
    exact B.2.2 _ _ _ _ dX3_beginGreens_63 rfl hE
  | succ n ih =>
    intro i x9 u hin hE hG
    have hlt : i < 2 := by omega
    have hnge : ¬ (2 : Int32) ≤ nI i := lt2 i hlt
    refine j_iload_n C 0 dX3_beginGreens_4 rfl ?_
    refine j_iconst C 2 dX3_beginGreens_5 ic_2 ?_
    refine j_icmp_ge C 62 dX3_beginGreens_6 (by decide) (fun hq => absurd hq hnge) (fun _ => ?_)
    refine j_aload_n C 2 dX3_beginGreens_9 rfl ?_
    refine j_get C kf_3 0 pl_desk 1 (by decide) lk_3_18 rfl dX3_beginGreens_10 ?_
    refine j_iload_n C 0 dX3_beginGreens_13 rfl ?_
    refine j_aald C 2 3 pl_rgs rfl i rfl hlt (by decide) rfl dX3_beginGreens_14 ?_
    refine j_astore_n C dX3_beginGreens_15 (by decide) rfl ?_
    refine j_aload_n C 0 dX3_beginGreens_16 rfl ?_
    refine j_get C kf_2 (23 + i) (pl_rg hlt) 3 (by decide) lk_3_140 rfl dX3_beginGreens_17 ?_
    refine j_if_ne C 56 dX3_beginGreens_20 (by decide) (fun c1 => ?_) (fun c1 => ?_)
    · have hE := (if_neg c1).symm.trans hE
      have hG := hG.2 c1
      refine j_iinc C 1 (nI (i + 1)) dX3_beginGreens_56 rfl (nI_1 _) (by decide) rfl ?_
      refine j_goto C 4 dX3_beginGreens_59 (by decide) ?_
      refine j_lv [0, 2, 3] rfl ?_
      exact ih (i + 1) x9 u (by omega) hE hG
    · have hE := (if_pos c1).symm.trans hE
      have hG := hG.1 c1
      refine j_aload_n C 0 dX3_beginGreens_23 rfl ?_
      refine j_get C kf_2 (23 + i) (pl_rg hlt) 7 (by decide) lk_3_100 rfl dX3_beginGreens_24 ?_
      refine j_iconst C (-1) dX3_beginGreens_27 ic_m1 ?_
      refine j_icmp_eq C 56 dX3_beginGreens_28 (by decide) (fun c2 => ?_) (fun c2 => ?_)
      · have hE := (if_pos c2).symm.trans hE
        have hG := hG.1 c2
        refine j_iinc C 1 (nI (i + 1)) dX3_beginGreens_56 rfl (nI_1 _) (by decide) rfl ?_
        refine j_goto C 4 dX3_beginGreens_59 (by decide) ?_
        refine j_lv [0, 2, 3] rfl ?_
        exact ih (i + 1) x9 u (by omega) hE hG
      · have hE := (if_neg c2).symm.trans hE
        have hG := hG.2 c2
        refine j_aload_n C 3 dX3_beginGreens_31 rfl ?_
        refine j_get C kf_3 0 pl_desk 0 (by decide) lk_3_11 rfl dX3_beginGreens_32 ?_
        refine j_aload_n C 0 dX3_beginGreens_35 rfl ?_
        refine j_get C kf_2 (23 + i) (pl_rg hlt) 7 (by decide) lk_3_100 rfl dX3_beginGreens_36 ?_
        obtain ⟨hv3, hG⟩ := hG
        have lhv3 := jk_lt hv3
        refine j_aald C 1 2 pl_mvs rfl ((u 35 i).toNatClampNeg) (jk_self hv3 (by decide)) (jk_lt hv3) (by decide) rfl dX3_beginGreens_39 ?_
        refine j_astore C dX3_beginGreens_40 (by decide) rfl ?_
        refine j_aload_n C 1 dX3_beginGreens_42 rfl ?_
        refine j_aload C 0 dX3_beginGreens_43 rfl ?_
        refine j_cVV C B.2.1 (c_R_beginGreen l D z a u i ((u 35 i).toNatClampNeg) hlt (jk_lt hv3)) gv_3_231 dd_R_beginGreen ⟨⟨rfl, rfl⟩, Nat.le_of_ble_eq_true rfl, Nat.le_of_ble_eq_true rfl⟩ (23 + i) 2 (pl_rg hlt) rfl rfl rfl rfl (Nat.le_of_ble_eq_true rfl) dX3_beginGreens_45 ?_
        refine j_aload C 0 dX3_beginGreens_48 rfl ?_
        refine j_cVV C B.2.1 (c_M_beginGreen l D z a (f_R_beginGreen u i ((u 35 i).toNatClampNeg)) ((u 35 i).toNatClampNeg) (jk_lt hv3)) gv_3_234 dd_M_beginGreen ⟨⟨rfl, rfl⟩, Nat.le_of_ble_eq_true rfl, Nat.le_of_ble_eq_true rfl⟩ (7 + ((u 35 i).toNatClampNeg)) 1 (pl_mv (jk_lt hv3)) rfl rfl rfl rfl (Nat.le_of_ble_eq_true rfl) dX3_beginGreens_50 ?_
        refine j_iinc C 3 (x9 + 1) dX3_beginGreens_53 rfl rfl (by decide) rfl ?_
        refine j_iinc C 3 (nI (i + 1)) dX3_beginGreens_56 rfl (nI_1 _) (by decide) rfl ?_
        refine j_goto C 4 dX3_beginGreens_59 (by decide) ?_
        refine j_lv [0, 1, 4] rfl ?_
        exact ih (i + 1) (x9 + 1) (f_M_beginGreen (f_R_beginGreen u i ((u 35 i).toNatClampNeg)) ((u 35 i).toNatClampNeg)) (by omega) hE hG
def f_beginGreens (u : St)  : Int32 × St := (f_beginGreens_4 2 0 (0 : Int32) u)
def g_beginGreens (u : St)  : Prop := (g_beginGreens_4 2 0 (0 : Int32) u)
set_option maxRecDepth 20000 in
set_option maxHeartbeats 1000000 in
theorem w_beginGreens_0 {F : Int32 × St} {u : St} (B : jk_BI p l e R s m args below meth c cX3_beginGreens 5 RX3 TT .int D clA (tyl z) (cW z a) A Q rm_beginGreens F)  (hE : f_beginGreens u = F) (hG : g_beginGreens u) : JJ p l e R s m args below meth c 0 0 5 D clA (cW z a) A Q 0 [(0, .ref (a 0))] u [] := by
  have C := B.1
  unfold f_beginGreens at hE
  unfold g_beginGreens at hG
  refine j_iconst C 0 dX3_beginGreens_0 ic_0 ?_
  refine j_istore_n C dX3_beginGreens_1 (by decide) rfl ?_
  refine j_iconst C 0 dX3_beginGreens_2 ic_0 ?_
  refine j_istore_n C dX3_beginGreens_3 (by decide) rfl ?_
  refine j_lq (congrArg (fun x => ([(2, .int x), (1, .int 0), (0, .ref (a 0))] : List (Nat × Value))) ix_0) ?_
  exact w_beginGreens_4 B 2 0 (0 : Int32) u (by omega) hE hG
theorem c_beginGreens (l : Launch) (D : va_G) (z : Nat → ClassId) (a : Nat → Nat) (u : St)  (hG : g_beginGreens u) : CtI l yX3_beginGreens (.code yX3_beginGreens cX3_beginGreens 5 (some .int) :: TT) rm_beginGreens D clA (tyl z) (cW z a) [.ref (a 0)] u (f_beginGreens u).1 (f_beginGreens u).2 :=
  jk_metI (own := RX3) (by decide) rfl (Nat.le_of_ble_eq_true rfl) (fun _ _ _ _ _ _ _ _ _ _ _ B => w_beginGreens_0 B rfl hG)
def rm_showLightsToGuard : Room := { frames := 4, cells := 0, slots := 0, locals := 86 }
def f_showLightsToGuard_2  : Nat → Nat → St → St
  | 0, i, u => (f_G_look u)
  | n + 1, i, u => (f_showLightsToGuard_2 n (i + 1) (up2 u 2 i (f_shownLight u i)))
def g_showLightsToGuard_2  : Nat → Nat → St → Prop
  | 0, i, u => (g_G_look u)
  | n + 1, i, u => (g_showLightsToGuard_2 n (i + 1) (up2 u 2 i (f_shownLight u i)))
set_option maxRecDepth 20000 in
set_option maxHeartbeats 1000000 in
theorem w_showLightsToGuard_2 {F : St} (B : jk_BV p l e R s m args below meth c cX3_showLightsToGuard 2 RX3 TT D clA (tyl z) (cW z a) A Q rm_showLightsToGuard F)  : ∀ (n i : Nat) (u : St), i + n = 8 → f_showLightsToGuard_2 n i u = F → g_showLightsToGuard_2 n i u → JJ p l e R s m args below meth c 0 0 2 D clA (cW z a) A Q 2 [(1, .int (nI i)), (0, .ref (a 0))] u [] := by
  have C := B.1
  intro n
  induction n with
  | zero =>
    intro i u hin hE hG
    obtain rfl : i = 8 := by omega
    have hge : (8 : Int32) ≤ nI 8 := by decide
    refine j_iload_n C 0 dX3_showLightsToGuard_2 rfl ?_
    refine j_bipush C 8 dX3_showLightsToGuard_3 bp_8 ?_
    refine j_icmp_ge C 25 dX3_showLightsToGuard_5 (by decide) (fun _ => ?_) (fun hq => absurd hge hq)
    refine j_aload_n C 1 dX3_showLightsToGuard_25 rfl ?_
    refine j_get C kf_3 0 pl_desk 2 (by decide) lk_3_28 rfl dX3_showLightsToGuard_26 ?_
    refine j_aload_n C 1 dX3_showLightsToGuard_29 rfl ?_
    refine j_get C kf_3 0 pl_desk 3 (by decide) lk_3_32 rfl dX3_showLightsToGuard_30 ?_
    have hg1 := hG
    refine j_cVV C B.2.1 (c_G_look l D z a u hg1) gv_3_236 dd_G_look ⟨⟨rfl, rfl⟩, Nat.le_of_ble_eq_true rfl, Nat.le_of_ble_eq_true rfl⟩ 3 0 pl_guard rfl rfl rfl rfl (Nat.le_of_ble_eq_true rfl) dX3_showLightsToGuard_33 ?_
    exact B.2.2 _ _ _ dX3_showLightsToGuard_36 hE
  | succ n ih =>
    intro i u hin hE hG
    have hlt : i < 8 := by omega
    have hnge : ¬ (8 : Int32) ≤ nI i := lt8 i hlt
    refine j_iload_n C 0 dX3_showLightsToGuard_2 rfl ?_
    refine j_bipush C 8 dX3_showLightsToGuard_3 bp_8 ?_
    refine j_icmp_ge C 25 dX3_showLightsToGuard_5 (by decide) (fun hq => absurd hq hnge) (fun _ => ?_)
    refine j_aload_n C 1 dX3_showLightsToGuard_8 rfl ?_
    refine j_get C kf_3 0 pl_desk 3 (by decide) lk_3_32 rfl dX3_showLightsToGuard_9 ?_
    refine j_iload_n C 0 dX3_showLightsToGuard_12 rfl ?_
    refine j_aload_n C 1 dX3_showLightsToGuard_13 rfl ?_
    refine j_iload_n C 0 dX3_showLightsToGuard_14 rfl ?_
    refine j_cIV C B.2.1 (c_shownLight l D z a u i hlt) gv_3_112 dd_shownLight ⟨⟨rfl, rfl⟩, Nat.le_of_ble_eq_true rfl, Nat.le_of_ble_eq_true rfl⟩ 0 3 pl_desk rfl rfl rfl rfl (Nat.le_of_ble_eq_true rfl) dX3_showLightsToGuard_15 ?_
    refine j_iast C 4 0 pl_lights rfl i rfl hlt (by decide) pu_lights dX3_showLightsToGuard_18 ?_
    refine j_iinc C 0 (nI (i + 1)) dX3_showLightsToGuard_19 rfl (nI_1 _) (by decide) rfl ?_
    refine j_goto C 2 dX3_showLightsToGuard_22 (by decide) ?_
    exact ih (i + 1) (up2 u 2 i (f_shownLight u i)) (by omega) hE hG
def f_showLightsToGuard (u : St)  : St := (f_showLightsToGuard_2 8 0 u)
def g_showLightsToGuard (u : St)  : Prop := (g_showLightsToGuard_2 8 0 u)
set_option maxRecDepth 20000 in
set_option maxHeartbeats 1000000 in
theorem w_showLightsToGuard_0 {F : St} {u : St} (B : jk_BV p l e R s m args below meth c cX3_showLightsToGuard 2 RX3 TT D clA (tyl z) (cW z a) A Q rm_showLightsToGuard F)  (hE : f_showLightsToGuard u = F) (hG : g_showLightsToGuard u) : JJ p l e R s m args below meth c 0 0 2 D clA (cW z a) A Q 0 [(0, .ref (a 0))] u [] := by
  have C := B.1
  unfold f_showLightsToGuard at hE
  unfold g_showLightsToGuard at hG
  refine j_iconst C 0 dX3_showLightsToGuard_0 ic_0 ?_
  refine j_istore_n C dX3_showLightsToGuard_1 (by decide) rfl ?_
  refine j_lq (congrArg (fun x => ([(1, .int x), (0, .ref (a 0))] : List (Nat × Value))) ix_0) ?_
  exact w_showLightsToGuard_2 B 8 0 u (by omega) hE hG
theorem c_showLightsToGuard (l : Launch) (D : va_G) (z : Nat → ClassId) (a : Nat → Nat) (u : St)  (hG : g_showLightsToGuard u) : CtV l yX3_showLightsToGuard (.code yX3_showLightsToGuard cX3_showLightsToGuard 2 none :: TT) rm_showLightsToGuard D clA (tyl z) (cW z a) [.ref (a 0)] u (f_showLightsToGuard u) :=
  jk_metV (own := RX3) (by decide) rfl (Nat.le_of_ble_eq_true rfl) (fun _ _ _ _ _ _ _ _ _ _ _ B => w_showLightsToGuard_0 B rfl hG)
def rm_tick : Room := { frames := 5, cells := 0, slots := 0, locals := 108 }
def f_tick_89 (u : St)  : Int32 × St := ((f_beginGreens u).1, (f_showLightsToGuard (f_beginGreens u).2))
def g_tick_89 (u : St)  : Prop := ((g_beginGreens u) ∧ (g_showLightsToGuard (f_beginGreens u).2))
set_option maxRecDepth 20000 in
set_option maxHeartbeats 1000000 in
theorem w_tick_89 {F : Int32 × St} {u : St} (B : jk_BI p l e R s m args below meth c cX3_tick 2 RX3 TT .int D clA (tyl z) (cW z a) A Q rm_tick F)  (hE : f_tick_89 u = F) (hG : g_tick_89 u) : JJ p l e R s m args below meth c 0 0 2 D clA (cW z a) A Q 89 [(0, .ref (a 0))] u [] := by
  have C := B.1
  unfold f_tick_89 at hE
  unfold g_tick_89 at hG
  refine j_aload_n C 0 dX3_tick_89 rfl ?_
  obtain ⟨hg1, hG⟩ := hG
  refine j_cIV C B.2.1 (c_beginGreens l D z a u hg1) gv_3_188 dd_beginGreens ⟨⟨rfl, rfl⟩, Nat.le_of_ble_eq_true rfl, Nat.le_of_ble_eq_true rfl⟩ 0 3 pl_desk rfl rfl rfl rfl (Nat.le_of_ble_eq_true rfl) dX3_tick_90 ?_
  refine j_istore_n C dX3_tick_93 (by decide) rfl ?_
  refine j_aload_n C 1 dX3_tick_94 rfl ?_
  have hg2 := hG
  refine j_cVV C B.2.1 (c_showLightsToGuard l D z a (f_beginGreens u).2 hg2) gv_3_191 dd_showLightsToGuard ⟨⟨rfl, rfl⟩, Nat.le_of_ble_eq_true rfl, Nat.le_of_ble_eq_true rfl⟩ 0 3 pl_desk rfl rfl rfl rfl (Nat.le_of_ble_eq_true rfl) dX3_tick_95 ?_
  refine j_iload_n C 0 dX3_tick_98 rfl ?_
  exact B.2.2 _ _ _ _ dX3_tick_99 rfl hE
def f_tick_29  : Nat → Nat → St → Int32 × St
  | 0, i, u => (if ((f_leaveSideOrTurnBack u) 0 2) = (0 : Int32) then (f_tick_89 (f_leaveSideOrTurnBack u)) else (if ((f_leaveSideOrTurnBack u) 31 0) = (0 : Int32) then (if ((f_leaveSideOrTurnBack u) 31 1) = (0 : Int32) then (f_tick_89 (f_endCrossing (f_leaveSideOrTurnBack u))) else (f_tick_89 (f_leaveSideOrTurnBack u))) else (f_tick_89 (f_leaveSideOrTurnBack u))))
  | n + 1, i, u => (f_tick_29 n (i + 1) (f_goOnWithinSide u i))
def g_tick_29  : Nat → Nat → St → Prop
  | 0, i, u => ((g_leaveSideOrTurnBack u) ∧ ((((f_leaveSideOrTurnBack u) 0 2) = (0 : Int32) → (g_tick_89 (f_leaveSideOrTurnBack u))) ∧ (¬ ((f_leaveSideOrTurnBack u) 0 2) = (0 : Int32) → ((((f_leaveSideOrTurnBack u) 31 0) = (0 : Int32) → ((((f_leaveSideOrTurnBack u) 31 1) = (0 : Int32) → ((g_endCrossing (f_leaveSideOrTurnBack u)) ∧ (g_tick_89 (f_endCrossing (f_leaveSideOrTurnBack u))))) ∧ (¬ ((f_leaveSideOrTurnBack u) 31 1) = (0 : Int32) → (g_tick_89 (f_leaveSideOrTurnBack u))))) ∧ (¬ ((f_leaveSideOrTurnBack u) 31 0) = (0 : Int32) → (g_tick_89 (f_leaveSideOrTurnBack u)))))))
  | n + 1, i, u => ((g_goOnWithinSide u i) ∧ (g_tick_29 n (i + 1) (f_goOnWithinSide u i)))
set_option maxRecDepth 20000 in
set_option maxHeartbeats 1000000 in
theorem w_tick_29 {F : Int32 × St} (B : jk_BI p l e R s m args below meth c cX3_tick 2 RX3 TT .int D clA (tyl z) (cW z a) A Q rm_tick F)  : ∀ (n i : Nat) (u : St), i + n = 2 → f_tick_29 n i u = F → g_tick_29 n i u → JJ p l e R s m args below meth c 0 0 2 D clA (cW z a) A Q 29 [(1, .int (nI i)), (0, .ref (a 0))] u [] := by
  have C := B.1
  intro n
  induction n with
  | zero =>
    intro i u hin hE hG
    obtain rfl : i = 2 := by omega
    have hge : (2 : Int32) ≤ nI 2 := by decide
    refine j_iload_n C 0 dX3_tick_29 rfl ?_
    refine j_iconst C 2 dX3_tick_30 ic_2 ?_
    refine j_icmp_ge C 50 dX3_tick_31 (by decide) (fun _ => ?_) (fun hq => absurd hge hq)
    refine j_aload_n C 1 dX3_tick_50 rfl ?_
    obtain ⟨hg1, hG⟩ := hG
    refine j_cVV C B.2.1 (c_leaveSideOrTurnBack l D z a u hg1) gv_3_182 dd_leaveSideOrTurnBack ⟨⟨rfl, rfl⟩, Nat.le_of_ble_eq_true rfl, Nat.le_of_ble_eq_true rfl⟩ 0 3 pl_desk rfl rfl rfl rfl (Nat.le_of_ble_eq_true rfl) dX3_tick_51 ?_
    refine j_aload_n C 1 dX3_tick_54 rfl ?_
    refine j_get C kf_3 0 pl_desk 6 (by decide) lk_3_103 rfl dX3_tick_55 ?_
    refine j_if_eq C 89 dX3_tick_58 (by decide) (fun c2 => ?_) (fun c2 => ?_)
    · have hE := (if_pos c2).symm.trans hE
      have hG := hG.1 c2
      refine j_lv [1] rfl ?_
      exact w_tick_89 B hE hG
    · have hE := (if_neg c2).symm.trans hE
      have hG := hG.2 c2
      refine j_aload_n C 1 dX3_tick_61 rfl ?_
      refine j_get C kf_3 0 pl_desk 1 (by decide) lk_3_18 rfl dX3_tick_62 ?_
      refine j_iconst C 0 dX3_tick_65 ic_0 ?_
      refine j_aald C 2 3 pl_rgs rfl 0 ix_0 (by decide) (by decide) rfl dX3_tick_66 ?_
      refine j_get C kf_2 (23 + 0) (pl_rg (by decide)) 3 (by decide) lk_3_140 rfl dX3_tick_67 ?_
      refine j_if_ne C 89 dX3_tick_70 (by decide) (fun c3 => ?_) (fun c3 => ?_)
      · have hE := (if_neg c3).symm.trans hE
        have hG := hG.2 c3
        refine j_lv [1] rfl ?_
        exact w_tick_89 B hE hG
      · have hE := (if_pos c3).symm.trans hE
        have hG := hG.1 c3
        refine j_aload_n C 1 dX3_tick_73 rfl ?_
        refine j_get C kf_3 0 pl_desk 1 (by decide) lk_3_18 rfl dX3_tick_74 ?_
        refine j_iconst C 1 dX3_tick_77 ic_1 ?_
        refine j_aald C 2 3 pl_rgs rfl 1 ix_1 (by decide) (by decide) rfl dX3_tick_78 ?_
        refine j_get C kf_2 (23 + 1) (pl_rg (by decide)) 3 (by decide) lk_3_140 rfl dX3_tick_79 ?_
        refine j_if_ne C 89 dX3_tick_82 (by decide) (fun c4 => ?_) (fun c4 => ?_)
        · have hE := (if_neg c4).symm.trans hE
          have hG := hG.2 c4
          refine j_lv [1] rfl ?_
          exact w_tick_89 B hE hG
        · have hE := (if_pos c4).symm.trans hE
          have hG := hG.1 c4
          refine j_aload_n C 1 dX3_tick_85 rfl ?_
          obtain ⟨hg5, hG⟩ := hG
          refine j_cVV C B.2.1 (c_endCrossing l D z a (f_leaveSideOrTurnBack u) hg5) gv_3_185 dd_endCrossing ⟨⟨rfl, rfl⟩, Nat.le_of_ble_eq_true rfl, Nat.le_of_ble_eq_true rfl⟩ 0 3 pl_desk rfl rfl rfl rfl (Nat.le_of_ble_eq_true rfl) dX3_tick_86 ?_
          refine j_lv [1] rfl ?_
          exact w_tick_89 B hE hG
  | succ n ih =>
    intro i u hin hE hG
    have hlt : i < 2 := by omega
    have hnge : ¬ (2 : Int32) ≤ nI i := lt2 i hlt
    refine j_iload_n C 0 dX3_tick_29 rfl ?_
    refine j_iconst C 2 dX3_tick_30 ic_2 ?_
    refine j_icmp_ge C 50 dX3_tick_31 (by decide) (fun hq => absurd hq hnge) (fun _ => ?_)
    refine j_aload_n C 1 dX3_tick_34 rfl ?_
    refine j_aload_n C 1 dX3_tick_35 rfl ?_
    refine j_get C kf_3 0 pl_desk 1 (by decide) lk_3_18 rfl dX3_tick_36 ?_
    refine j_iload_n C 0 dX3_tick_39 rfl ?_
    refine j_aald C 2 3 pl_rgs rfl i rfl hlt (by decide) rfl dX3_tick_40 ?_
    obtain ⟨hg1, hG⟩ := hG
    refine j_cVV C B.2.1 (c_goOnWithinSide l D z a u i hlt hg1) gv_3_178 dd_goOnWithinSide ⟨⟨rfl, rfl⟩, Nat.le_of_ble_eq_true rfl, Nat.le_of_ble_eq_true rfl⟩ 0 3 pl_desk rfl rfl rfl rfl (Nat.le_of_ble_eq_true rfl) dX3_tick_41 ?_
    refine j_iinc C 0 (nI (i + 1)) dX3_tick_44 rfl (nI_1 _) (by decide) rfl ?_
    refine j_goto C 29 dX3_tick_47 (by decide) ?_
    exact ih (i + 1) (f_goOnWithinSide u i) (by omega) hE hG
def f_tick (u : St)  : Int32 × St := (if (f_isFlashing (up2 u 0 0 ((u 0 0) + (1 : Int32)))) = (0 : Int32) then (f_tick_29 2 0 (f_advanceRings (f_countWaits (up2 u 0 0 ((u 0 0) + (1 : Int32)))))) else ((0 : Int32), (up2 u 0 0 ((u 0 0) + (1 : Int32)))))
def g_tick (u : St)  : Prop := (((f_isFlashing (up2 u 0 0 ((u 0 0) + (1 : Int32)))) = (0 : Int32) → ((g_advanceRings (f_countWaits (up2 u 0 0 ((u 0 0) + (1 : Int32))))) ∧ (g_tick_29 2 0 (f_advanceRings (f_countWaits (up2 u 0 0 ((u 0 0) + (1 : Int32)))))))) ∧ (¬ (f_isFlashing (up2 u 0 0 ((u 0 0) + (1 : Int32)))) = (0 : Int32) → True))
set_option maxRecDepth 20000 in
set_option maxHeartbeats 1000000 in
theorem w_tick_0 {F : Int32 × St} {u : St} (B : jk_BI p l e R s m args below meth c cX3_tick 2 RX3 TT .int D clA (tyl z) (cW z a) A Q rm_tick F)  (hE : f_tick u = F) (hG : g_tick u) : JJ p l e R s m args below meth c 0 0 2 D clA (cW z a) A Q 0 [(0, .ref (a 0))] u [] := by
  have C := B.1
  unfold f_tick at hE
  unfold g_tick at hG
  refine j_aload_n C 0 dX3_tick_0 rfl ?_
  refine j_dup C dX3_tick_1 rfl ?_
  refine j_get C kf_3 0 pl_desk 4 (by decide) lk_3_156 rfl dX3_tick_2 ?_
  refine j_iconst C 1 dX3_tick_5 ic_1 ?_
  refine j_iadd C dX3_tick_6 ?_
  refine j_put C kf_3 0 pl_desk 4 (by decide) lk_3_156 rfl rfl rfl (Nat.le_of_ble_eq_true rfl) pu_desk_time dX3_tick_7 ?_
  refine j_aload_n C 0 dX3_tick_10 rfl ?_
  refine j_cIV C B.2.1 (c_isFlashing l D z a (up2 u 0 0 ((u 0 0) + (1 : Int32)))) gv_3_93 dd_isFlashing ⟨⟨rfl, rfl⟩, Nat.le_of_ble_eq_true rfl, Nat.le_of_ble_eq_true rfl⟩ 0 3 pl_desk rfl rfl rfl rfl (Nat.le_of_ble_eq_true rfl) dX3_tick_11 ?_
  refine j_if_eq C 19 dX3_tick_14 (by decide) (fun c1 => ?_) (fun c1 => ?_)
  · have hE := (if_pos c1).symm.trans hE
    have hG := hG.1 c1
    refine j_aload_n C 0 dX3_tick_19 rfl ?_
    refine j_cVV C B.2.1 (c_countWaits l D z a (up2 u 0 0 ((u 0 0) + (1 : Int32)))) gv_3_172 dd_countWaits ⟨⟨rfl, rfl⟩, Nat.le_of_ble_eq_true rfl, Nat.le_of_ble_eq_true rfl⟩ 0 3 pl_desk rfl rfl rfl rfl (Nat.le_of_ble_eq_true rfl) dX3_tick_20 ?_
    refine j_aload_n C 0 dX3_tick_23 rfl ?_
    obtain ⟨hg2, hG⟩ := hG
    refine j_cVV C B.2.1 (c_advanceRings l D z a (f_countWaits (up2 u 0 0 ((u 0 0) + (1 : Int32)))) hg2) gv_3_175 dd_advanceRings ⟨⟨rfl, rfl⟩, Nat.le_of_ble_eq_true rfl, Nat.le_of_ble_eq_true rfl⟩ 0 3 pl_desk rfl rfl rfl rfl (Nat.le_of_ble_eq_true rfl) dX3_tick_24 ?_
    refine j_iconst C 0 dX3_tick_27 ic_0 ?_
    refine j_istore_n C dX3_tick_28 (by decide) rfl ?_
    refine j_lq (congrArg (fun x => ([(1, .int x), (0, .ref (a 0))] : List (Nat × Value))) ix_0) ?_
    exact w_tick_29 B 2 0 (f_advanceRings (f_countWaits (up2 u 0 0 ((u 0 0) + (1 : Int32))))) (by omega) hE hG
  · have hE := (if_neg c1).symm.trans hE
    refine j_iconst C 0 dX3_tick_17 ic_0 ?_
    exact B.2.2 _ _ _ _ dX3_tick_18 rfl hE
theorem c_tick (l : Launch) (D : va_G) (z : Nat → ClassId) (a : Nat → Nat) (u : St)  (hG : g_tick u) : CtI l yX3_tick (.code yX3_tick cX3_tick 2 (some .int) :: TT) rm_tick D clA (tyl z) (cW z a) [.ref (a 0)] u (f_tick u).1 (f_tick u).2 :=
  jk_metI (own := RX3) (by decide) rfl (Nat.le_of_ble_eq_true rfl) (fun _ _ _ _ _ _ _ _ _ _ _ B => w_tick_0 B rfl hG)
def rm_run : Room := { frames := 6, cells := 0, slots := 0, locals := 129 }
def f_run_17 (x0 : Int32) : Nat → Nat → Int32 → Nat → St → Int32 × St
  | 0, i, x9, k9, u => (x9, u)
  | n + 1, i, x9, k9, u => (f_run_17 x0 n (i + 1) (x9 + (f_tick u).1) k9 (f_tick u).2)
def g_run_17 (x0 : Int32) : Nat → Nat → Int32 → Nat → St → Prop
  | 0, i, x9, k9, u => True
  | n + 1, i, x9, k9, u => ((g_tick u) ∧ (g_run_17 x0 n (i + 1) (x9 + (f_tick u).1) k9 (f_tick u).2))
set_option maxRecDepth 20000 in
set_option maxHeartbeats 1000000 in
theorem w_run_17 {F : Int32 × St} (B : jk_BI p l e R s m args below meth c cX3_run 4 RX3 TT .int D clA (tyl z) (cW z a) A Q rm_run F) (x0 : Int32) : ∀ (n i : Nat) (x9 : Int32) (k9 : Nat) (u : St), i + n = k9 → k9 < 501 → f_run_17 x0 n i x9 k9 u = F → g_run_17 x0 n i x9 k9 u → JJ p l e R s m args below meth c 0 0 4 D clA (cW z a) A Q 17 [(3, .int (nI i)), (2, .int x9), (1, .int (nI k9)), (0, .ref (a 0))] u [] := by
  have C := B.1
  intro n
  induction n with
  | zero =>
    intro i x9 k9 u hin hk9 hE hG
    obtain rfl : i = k9 := by omega
    have hge : nI i ≤ nI i := Int32.le_refl _
    refine j_iload_n C 0 dX3_run_17 rfl ?_
    refine j_iload_n C 2 dX3_run_18 rfl ?_
    refine j_icmp_ge C 35 dX3_run_19 (by decide) (fun _ => ?_) (fun hq => absurd hge hq)
    refine j_iload_n C 1 dX3_run_35 rfl ?_
    exact B.2.2 _ _ _ _ dX3_run_36 rfl hE
  | succ n ih =>
    intro i x9 k9 u hin hk9 hE hG
    have hlt : i < k9 := by omega
    have hnge : ¬ nI k9 ≤ nI i := nI_ge hlt (by omega)
    refine j_iload_n C 0 dX3_run_17 rfl ?_
    refine j_iload_n C 2 dX3_run_18 rfl ?_
    refine j_icmp_ge C 35 dX3_run_19 (by decide) (fun hq => absurd hq hnge) (fun _ => ?_)
    refine j_iload_n C 1 dX3_run_22 rfl ?_
    refine j_aload_n C 3 dX3_run_23 rfl ?_
    obtain ⟨hg1, hG⟩ := hG
    refine j_cIV C B.2.1 (c_tick l D z a u hg1) gv_3_89 dd_tick ⟨⟨rfl, rfl⟩, Nat.le_of_ble_eq_true rfl, Nat.le_of_ble_eq_true rfl⟩ 0 3 pl_desk rfl rfl rfl rfl (Nat.le_of_ble_eq_true rfl) dX3_run_24 ?_
    refine j_iadd C dX3_run_27 ?_
    refine j_istore_n C dX3_run_28 (by decide) rfl ?_
    refine j_iinc C 1 (nI (i + 1)) dX3_run_29 rfl (nI_1 _) (by decide) rfl ?_
    refine j_goto C 17 dX3_run_32 (by decide) ?_
    exact ih (i + 1) (x9 + (f_tick u).1) k9 (f_tick u).2 (by omega) hk9 hE hG
def f_run (u : St) (x0 : Int32) : Int32 × St := (if x0 < (0 : Int32) then ((-1 : Int32), u) else (if x0 ≤ (500 : Int32) then (f_run_17 x0 (x0.toNatClampNeg) 0 (0 : Int32) (x0.toNatClampNeg) u) else ((-1 : Int32), u)))
def g_run (u : St) (x0 : Int32) : Prop := ((x0 < (0 : Int32) → True) ∧ (¬ x0 < (0 : Int32) → ((x0 ≤ (500 : Int32) → ((vp_in x0 501) ∧ (g_run_17 x0 (x0.toNatClampNeg) 0 (0 : Int32) (x0.toNatClampNeg) u))) ∧ (¬ x0 ≤ (500 : Int32) → True))))
set_option maxRecDepth 20000 in
set_option maxHeartbeats 1000000 in
theorem w_run_0 {F : Int32 × St} {u : St} (B : jk_BI p l e R s m args below meth c cX3_run 4 RX3 TT .int D clA (tyl z) (cW z a) A Q rm_run F) (x0 : Int32) (hE : f_run u x0 = F) (hG : g_run u x0) : JJ p l e R s m args below meth c 0 0 4 D clA (cW z a) A Q 0 [(0, .ref (a 0)), (1, .int x0)] u [] := by
  have C := B.1
  unfold f_run at hE
  unfold g_run at hG
  refine j_iload_n C 1 dX3_run_0 rfl ?_
  refine j_if_lt C 11 dX3_run_1 (by decide) (fun c1 => ?_) (fun c1 => ?_)
  · have hE := (if_pos c1).symm.trans hE
    refine j_iconst C (-1) dX3_run_11 ic_m1 ?_
    exact B.2.2 _ _ _ _ dX3_run_12 rfl hE
  · have hE := (if_neg c1).symm.trans hE
    have hG := hG.2 c1
    refine j_iload_n C 1 dX3_run_4 rfl ?_
    refine j_sipush C 500 dX3_run_5 sp_500 ?_
    refine j_icmp_le C 13 dX3_run_8 (by decide) (fun c2 => ?_) (fun c2 => ?_)
    · have hE := (if_pos c2).symm.trans hE
      have hG := hG.1 c2
      refine j_iconst C 0 dX3_run_13 ic_0 ?_
      refine j_istore_n C dX3_run_14 (by decide) rfl ?_
      refine j_iconst C 0 dX3_run_15 ic_0 ?_
      refine j_istore_n C dX3_run_16 (by decide) rfl ?_
      obtain ⟨hv3, hG⟩ := hG
      have lhv3 := jk_lt hv3
      refine j_lv [0, 1, 3, 2] rfl ?_
      refine j_lq (congrArg (fun x => ([(3, .int x), (2, .int 0), (1, .int x0), (0, .ref (a 0))] : List (Nat × Value))) ix_0) ?_
      refine j_lq (congrArg (fun x => ([(3, .int (nI 0)), (2, .int 0), (1, .int x), (0, .ref (a 0))] : List (Nat × Value))) (jk_self hv3 (by decide))) ?_
      exact w_run_17 B x0 (x0.toNatClampNeg) 0 (0 : Int32) (x0.toNatClampNeg) u (Nat.zero_add _) (jk_lt hv3) hE hG
    · have hE := (if_neg c2).symm.trans hE
      refine j_iconst C (-1) dX3_run_11 ic_m1 ?_
      exact B.2.2 _ _ _ _ dX3_run_12 rfl hE
theorem c_run (l : Launch) (D : va_G) (z : Nat → ClassId) (a : Nat → Nat) (u : St) (x0 : Int32) (hG : g_run u x0) : CtI l yX3_run (.code yX3_run cX3_run 4 (some .int) :: TT) rm_run D clA (tyl z) (cW z a) [.ref (a 0), .int x0] u (f_run u x0).1 (f_run u x0).2 :=
  jk_metI (own := RX3) (by decide) rfl (Nat.le_of_ble_eq_true rfl) (fun _ _ _ _ _ _ _ _ _ _ _ B => w_run_0 B x0 rfl hG)
def rm_set : Room := { frames := 1, cells := 0, slots := 0, locals := 20 }
def f_set (u : St) (x0 : Int32) (x1 : Int32) (x2 : Int32) : Int32 × St := (if (f_isMovement x0) = (0 : Int32) then ((0 : Int32), u) else (if x1 < (0 : Int32) then ((0 : Int32), u) else (if x1 < (7 : Int32) then (if x2 < (jk_lo (x1.toNatClampNeg)) then ((0 : Int32), u) else (if x2 ≤ (jk_hi (x1.toNatClampNeg)) then ((1 : Int32), (up2 u (20 + (x0.toNatClampNeg)) (x1.toNatClampNeg) x2)) else ((0 : Int32), u))) else ((0 : Int32), u))))
def g_set (u : St) (x0 : Int32) (x1 : Int32) (x2 : Int32) : Prop := (((f_isMovement x0) = (0 : Int32) → True) ∧ (¬ (f_isMovement x0) = (0 : Int32) → ((x1 < (0 : Int32) → True) ∧ (¬ x1 < (0 : Int32) → ((x1 < (7 : Int32) → ((vp_in x1 7) ∧ ((x2 < (jk_lo (x1.toNatClampNeg)) → True) ∧ (¬ x2 < (jk_lo (x1.toNatClampNeg)) → ((x2 ≤ (jk_hi (x1.toNatClampNeg)) → (vp_in x0 8)) ∧ (¬ x2 ≤ (jk_hi (x1.toNatClampNeg)) → True)))))) ∧ (¬ x1 < (7 : Int32) → True))))))
set_option maxRecDepth 20000 in
set_option maxHeartbeats 1000000 in
theorem w_set_0 {F : Int32 × St} {u : St} (B : jk_BI p l e R s m args below meth c cX3_set 4 RX3 TT .int D clA (tyl z) (cW z a) A Q rm_set F) (x0 : Int32) (x1 : Int32) (x2 : Int32) (hE : f_set u x0 x1 x2 = F) (hG : g_set u x0 x1 x2) : JJ p l e R s m args below meth c 0 0 4 D clA (cW z a) A Q 0 [(0, .ref (a 0)), (1, .int x0), (2, .int x1), (3, .int x2)] u [] := by
  have C := B.1
  unfold f_set at hE
  unfold g_set at hG
  refine j_iload_n C 1 dX3_set_0 rfl ?_
  refine j_cIS C B.2.1 (c_isMovement l D z a u x0) gv_3_36 dd_isMovement ⟨⟨rfl, rfl⟩, Nat.le_of_ble_eq_true rfl, Nat.le_of_ble_eq_true rfl⟩ rfl rfl (Nat.le_of_ble_eq_true rfl) dX3_set_1 ?_
  refine j_if_eq C 17 dX3_set_4 (by decide) (fun c1 => ?_) (fun c1 => ?_)
  · have hE := (if_pos c1).symm.trans hE
    refine j_iconst C 0 dX3_set_17 ic_0 ?_
    exact B.2.2 _ _ _ _ dX3_set_18 rfl hE
  · have hE := (if_neg c1).symm.trans hE
    have hG := hG.2 c1
    refine j_iload_n C 2 dX3_set_7 rfl ?_
    refine j_if_lt C 17 dX3_set_8 (by decide) (fun c2 => ?_) (fun c2 => ?_)
    · have hE := (if_pos c2).symm.trans hE
      refine j_iconst C 0 dX3_set_17 ic_0 ?_
      exact B.2.2 _ _ _ _ dX3_set_18 rfl hE
    · have hE := (if_neg c2).symm.trans hE
      have hG := hG.2 c2
      refine j_iload_n C 2 dX3_set_11 rfl ?_
      refine j_bipush C 7 dX3_set_12 bp_7 ?_
      refine j_icmp_lt C 19 dX3_set_14 (by decide) (fun c3 => ?_) (fun c3 => ?_)
      · have hE := (if_pos c3).symm.trans hE
        have hG := hG.1 c3
        refine j_iload_n C 3 dX3_set_19 rfl ?_
        refine j_stat C (f := jk_lo) (fun h => h.2.1) sl_3_40 dX3_set_20 (fun t4 ht4 => ?_)
        refine j_iload_n C 2 dX3_set_23 rfl ?_
        obtain ⟨hv5, hG⟩ := hG
        have lhv5 := jk_lt hv5
        refine j_tald C ht4 (x1.toNatClampNeg) (jk_self hv5 (by decide)) (jk_lt hv5) dX3_set_24 ?_
        refine j_icmp_lt C 37 dX3_set_25 (by decide) (fun c6 => ?_) (fun c6 => ?_)
        · have hE := (if_pos c6).symm.trans hE
          refine j_iconst C 0 dX3_set_37 ic_0 ?_
          exact B.2.2 _ _ _ _ dX3_set_38 rfl hE
        · have hE := (if_neg c6).symm.trans hE
          have hG := hG.2 c6
          refine j_iload_n C 3 dX3_set_28 rfl ?_
          refine j_stat C (f := jk_hi) (fun h => h.2.2) sl_3_43 dX3_set_29 (fun t7 ht7 => ?_)
          refine j_iload_n C 2 dX3_set_32 rfl ?_
          refine j_tald C ht7 (x1.toNatClampNeg) (jk_self hv5 (by decide)) (jk_lt hv5) dX3_set_33 ?_
          refine j_icmp_le C 39 dX3_set_34 (by decide) (fun c8 => ?_) (fun c8 => ?_)
          · have hE := (if_pos c8).symm.trans hE
            have hG := hG.1 c8
            refine j_aload_n C 0 dX3_set_39 rfl ?_
            refine j_get C kf_3 0 pl_desk 0 (by decide) lk_3_11 rfl dX3_set_40 ?_
            refine j_iload_n C 1 dX3_set_43 rfl ?_
            have hv9 := hG
            have lhv9 := jk_lt hv9
            refine j_aald C 1 2 pl_mvs rfl (x0.toNatClampNeg) (jk_self hv9 (by decide)) (jk_lt hv9) (by decide) rfl dX3_set_44 ?_
            refine j_get C kf_1 (7 + (x0.toNatClampNeg)) (pl_mv (jk_lt hv9)) 0 (by decide) lk_3_46 rfl dX3_set_45 ?_
            refine j_iload_n C 2 dX3_set_48 rfl ?_
            refine j_iload_n C 3 dX3_set_49 rfl ?_
            refine j_iast C (15 + (x0.toNatClampNeg)) 0 (pl_times (jk_lt hv9)) rfl (x1.toNatClampNeg) (jk_self hv5 (by decide)) (jk_lt hv5) (by decide) (pu_times (jk_lt hv9)) dX3_set_50 ?_
            refine j_iconst C 1 dX3_set_51 ic_1 ?_
            exact B.2.2 _ _ _ _ dX3_set_52 rfl hE
          · have hE := (if_neg c8).symm.trans hE
            refine j_iconst C 0 dX3_set_37 ic_0 ?_
            exact B.2.2 _ _ _ _ dX3_set_38 rfl hE
      · have hE := (if_neg c3).symm.trans hE
        refine j_iconst C 0 dX3_set_17 ic_0 ?_
        exact B.2.2 _ _ _ _ dX3_set_18 rfl hE
theorem c_set (l : Launch) (D : va_G) (z : Nat → ClassId) (a : Nat → Nat) (u : St) (x0 : Int32) (x1 : Int32) (x2 : Int32) (hG : g_set u x0 x1 x2) : CtI l yX3_set (.code yX3_set cX3_set 4 (some .int) :: TT) rm_set D clA (tyl z) (cW z a) [.ref (a 0), .int x0, .int x1, .int x2] u (f_set u x0 x1 x2).1 (f_set u x0 x1 x2).2 :=
  jk_metI (own := RX3) (by decide) rfl (Nat.le_of_ble_eq_true rfl) (fun _ _ _ _ _ _ _ _ _ _ _ B => w_set_0 B x0 x1 x2 rfl hG)
end WLK
end
section
section WLK
variable {p : Program} {l : Launch} {e : Env} {R : Room} {s : State} {m : MethodId} {args : Array Value} {below : List Frame} {meth : Method} {c : Code} {D : va_G} {z : Nat → ClassId} {a : Nat → Nat} {A : Nat → Prop} {Q : State → Prop}
def rm_mode : Room := { frames := 1, cells := 0, slots := 0, locals := 20 }
def f_mode (u : St) (x0 : Int32) (x1 : Int32) : Int32 × St := (if (f_isMovement x0) = (0 : Int32) then ((0 : Int32), u) else (if x1 < (0 : Int32) then ((0 : Int32), u) else (if x1 ≤ (63 : Int32) then ((1 : Int32), (up2 u 10 (x0.toNatClampNeg) x1)) else ((0 : Int32), u))))
def g_mode (u : St) (x0 : Int32) (x1 : Int32) : Prop := (((f_isMovement x0) = (0 : Int32) → True) ∧ (¬ (f_isMovement x0) = (0 : Int32) → ((x1 < (0 : Int32) → True) ∧ (¬ x1 < (0 : Int32) → ((x1 ≤ (63 : Int32) → (vp_in x0 8)) ∧ (¬ x1 ≤ (63 : Int32) → True))))))
set_option maxRecDepth 20000 in
set_option maxHeartbeats 1000000 in
theorem w_mode_0 {F : Int32 × St} {u : St} (B : jk_BI p l e R s m args below meth c cX3_mode 3 RX3 TT .int D clA (tyl z) (cW z a) A Q rm_mode F) (x0 : Int32) (x1 : Int32) (hE : f_mode u x0 x1 = F) (hG : g_mode u x0 x1) : JJ p l e R s m args below meth c 0 0 3 D clA (cW z a) A Q 0 [(0, .ref (a 0)), (1, .int x0), (2, .int x1)] u [] := by
  have C := B.1
  unfold f_mode at hE
  unfold g_mode at hG
  refine j_iload_n C 1 dX3_mode_0 rfl ?_
  refine j_cIS C B.2.1 (c_isMovement l D z a u x0) gv_3_36 dd_isMovement ⟨⟨rfl, rfl⟩, Nat.le_of_ble_eq_true rfl, Nat.le_of_ble_eq_true rfl⟩ rfl rfl (Nat.le_of_ble_eq_true rfl) dX3_mode_1 ?_
  refine j_if_eq C 17 dX3_mode_4 (by decide) (fun c1 => ?_) (fun c1 => ?_)
  · have hE := (if_pos c1).symm.trans hE
    refine j_iconst C 0 dX3_mode_17 ic_0 ?_
    exact B.2.2 _ _ _ _ dX3_mode_18 rfl hE
  · have hE := (if_neg c1).symm.trans hE
    have hG := hG.2 c1
    refine j_iload_n C 2 dX3_mode_7 rfl ?_
    refine j_if_lt C 17 dX3_mode_8 (by decide) (fun c2 => ?_) (fun c2 => ?_)
    · have hE := (if_pos c2).symm.trans hE
      refine j_iconst C 0 dX3_mode_17 ic_0 ?_
      exact B.2.2 _ _ _ _ dX3_mode_18 rfl hE
    · have hE := (if_neg c2).symm.trans hE
      have hG := hG.2 c2
      refine j_iload_n C 2 dX3_mode_11 rfl ?_
      refine j_bipush C 63 dX3_mode_12 bp_63 ?_
      refine j_icmp_le C 19 dX3_mode_14 (by decide) (fun c3 => ?_) (fun c3 => ?_)
      · have hE := (if_pos c3).symm.trans hE
        have hG := hG.1 c3
        refine j_aload_n C 0 dX3_mode_19 rfl ?_
        refine j_get C kf_3 0 pl_desk 0 (by decide) lk_3_11 rfl dX3_mode_20 ?_
        refine j_iload_n C 1 dX3_mode_23 rfl ?_
        have hv4 := hG
        have lhv4 := jk_lt hv4
        refine j_aald C 1 2 pl_mvs rfl (x0.toNatClampNeg) (jk_self hv4 (by decide)) (jk_lt hv4) (by decide) rfl dX3_mode_24 ?_
        refine j_iload_n C 2 dX3_mode_25 rfl ?_
        refine j_put C kf_1 (7 + (x0.toNatClampNeg)) (pl_mv (jk_lt hv4)) 1 (by decide) lk_3_49 rfl rfl rfl (Nat.le_of_ble_eq_true rfl) (pu_mv_modes (jk_lt hv4)) dX3_mode_26 ?_
        refine j_iconst C 1 dX3_mode_29 ic_1 ?_
        exact B.2.2 _ _ _ _ dX3_mode_30 rfl hE
      · have hE := (if_neg c3).symm.trans hE
        refine j_iconst C 0 dX3_mode_17 ic_0 ?_
        exact B.2.2 _ _ _ _ dX3_mode_18 rfl hE
theorem c_mode (l : Launch) (D : va_G) (z : Nat → ClassId) (a : Nat → Nat) (u : St) (x0 : Int32) (x1 : Int32) (hG : g_mode u x0 x1) : CtI l yX3_mode (.code yX3_mode cX3_mode 3 (some .int) :: TT) rm_mode D clA (tyl z) (cW z a) [.ref (a 0), .int x0, .int x1] u (f_mode u x0 x1).1 (f_mode u x0 x1).2 :=
  jk_metI (own := RX3) (by decide) rfl (Nat.le_of_ble_eq_true rfl) (fun _ _ _ _ _ _ _ _ _ _ _ B => w_mode_0 B x0 x1 rfl hG)
def rm_exchange : Room := { frames := 1, cells := 0, slots := 0, locals := 21 }
def f_exchange (u : St) (x0 : Int32) (x1 : Int32) : Int32 × St := (if (f_isRing x0) = (0 : Int32) then ((0 : Int32), u) else (if x1 < (0 : Int32) then ((0 : Int32), u) else (if x1 < (2 : Int32) then (if (f_R_isBusyWith u (x0.toNatClampNeg) (f_R_first u (x0.toNatClampNeg) x1)) = (0 : Int32) then (if (f_R_isBusyWith u (x0.toNatClampNeg) (f_R_second u (x0.toNatClampNeg) x1)) = (0 : Int32) then (if (u (40 + (x0.toNatClampNeg)) (x1.toNatClampNeg)) = (0 : Int32) then ((1 : Int32), (up2 u (40 + (x0.toNatClampNeg)) (x1.toNatClampNeg) (1 : Int32))) else ((1 : Int32), (up2 u (40 + (x0.toNatClampNeg)) (x1.toNatClampNeg) (0 : Int32)))) else ((0 : Int32), u)) else ((0 : Int32), u)) else ((0 : Int32), u))))
def g_exchange (u : St) (x0 : Int32) (x1 : Int32) : Prop := (((f_isRing x0) = (0 : Int32) → True) ∧ (¬ (f_isRing x0) = (0 : Int32) → ((x1 < (0 : Int32) → True) ∧ (¬ x1 < (0 : Int32) → ((x1 < (2 : Int32) → ((vp_in x0 2) ∧ ((g_R_first u (x0.toNatClampNeg) x1) ∧ (((f_R_isBusyWith u (x0.toNatClampNeg) (f_R_first u (x0.toNatClampNeg) x1)) = (0 : Int32) → ((g_R_second u (x0.toNatClampNeg) x1) ∧ (((f_R_isBusyWith u (x0.toNatClampNeg) (f_R_second u (x0.toNatClampNeg) x1)) = (0 : Int32) → (vp_in x1 2)) ∧ (¬ (f_R_isBusyWith u (x0.toNatClampNeg) (f_R_second u (x0.toNatClampNeg) x1)) = (0 : Int32) → True)))) ∧ (¬ (f_R_isBusyWith u (x0.toNatClampNeg) (f_R_first u (x0.toNatClampNeg) x1)) = (0 : Int32) → True))))) ∧ (¬ x1 < (2 : Int32) → True))))))
set_option maxRecDepth 20000 in
set_option maxHeartbeats 1000000 in
theorem w_exchange_0 {F : Int32 × St} {u : St} (B : jk_BI p l e R s m args below meth c cX3_exchange 4 RX3 TT .int D clA (tyl z) (cW z a) A Q rm_exchange F) (x0 : Int32) (x1 : Int32) (hE : f_exchange u x0 x1 = F) (hG : g_exchange u x0 x1) : JJ p l e R s m args below meth c 0 0 4 D clA (cW z a) A Q 0 [(0, .ref (a 0)), (1, .int x0), (2, .int x1)] u [] := by
  have C := B.1
  unfold f_exchange at hE
  unfold g_exchange at hG
  refine j_iload_n C 1 dX3_exchange_0 rfl ?_
  refine j_cIS C B.2.1 (c_isRing l D z a u x0) gv_3_53 dd_isRing ⟨⟨rfl, rfl⟩, Nat.le_of_ble_eq_true rfl, Nat.le_of_ble_eq_true rfl⟩ rfl rfl (Nat.le_of_ble_eq_true rfl) dX3_exchange_1 ?_
  refine j_if_eq C 16 dX3_exchange_4 (by decide) (fun c1 => ?_) (fun c1 => ?_)
  · have hE := (if_pos c1).symm.trans hE
    refine j_iconst C 0 dX3_exchange_16 ic_0 ?_
    exact B.2.2 _ _ _ _ dX3_exchange_17 rfl hE
  · have hE := (if_neg c1).symm.trans hE
    have hG := hG.2 c1
    refine j_iload_n C 2 dX3_exchange_7 rfl ?_
    refine j_if_lt C 16 dX3_exchange_8 (by decide) (fun c2 => ?_) (fun c2 => ?_)
    · have hE := (if_pos c2).symm.trans hE
      refine j_iconst C 0 dX3_exchange_16 ic_0 ?_
      exact B.2.2 _ _ _ _ dX3_exchange_17 rfl hE
    · have hE := (if_neg c2).symm.trans hE
      have hG := hG.2 c2
      refine j_iload_n C 2 dX3_exchange_11 rfl ?_
      refine j_iconst C 2 dX3_exchange_12 ic_2 ?_
      refine j_icmp_lt C 18 dX3_exchange_13 (by decide) (fun c3 => ?_) (fun c3 => ?_)
      · have hE := (if_pos c3).symm.trans hE
        have hG := hG.1 c3
        refine j_aload_n C 0 dX3_exchange_18 rfl ?_
        refine j_get C kf_3 0 pl_desk 1 (by decide) lk_3_18 rfl dX3_exchange_19 ?_
        refine j_iload_n C 1 dX3_exchange_22 rfl ?_
        obtain ⟨hv4, hG⟩ := hG
        have lhv4 := jk_lt hv4
        refine j_aald C 2 3 pl_rgs rfl (x0.toNatClampNeg) (jk_self hv4 (by decide)) (jk_lt hv4) (by decide) rfl dX3_exchange_23 ?_
        refine j_astore_n C dX3_exchange_24 (by decide) rfl ?_
        refine j_aload_n C 0 dX3_exchange_25 rfl ?_
        refine j_aload_n C 0 dX3_exchange_26 rfl ?_
        refine j_iload_n C 3 dX3_exchange_27 rfl ?_
        obtain ⟨hg5, hG⟩ := hG
        refine j_cIV C B.2.1 (c_R_first l D z a u (x0.toNatClampNeg) x1 (jk_lt hv4) hg5) gv_3_56 dd_R_first ⟨⟨rfl, rfl⟩, Nat.le_of_ble_eq_true rfl, Nat.le_of_ble_eq_true rfl⟩ (23 + (x0.toNatClampNeg)) 2 (pl_rg (jk_lt hv4)) rfl rfl rfl rfl (Nat.le_of_ble_eq_true rfl) dX3_exchange_28 ?_
        refine j_cIV C B.2.1 (c_R_isBusyWith l D z a u (x0.toNatClampNeg) (f_R_first u (x0.toNatClampNeg) x1) (jk_lt hv4)) gv_3_60 dd_R_isBusyWith ⟨⟨rfl, rfl⟩, Nat.le_of_ble_eq_true rfl, Nat.le_of_ble_eq_true rfl⟩ (23 + (x0.toNatClampNeg)) 2 (pl_rg (jk_lt hv4)) rfl rfl rfl rfl (Nat.le_of_ble_eq_true rfl) dX3_exchange_31 ?_
        refine j_if_ne C 49 dX3_exchange_34 (by decide) (fun c6 => ?_) (fun c6 => ?_)
        · have hE := (if_neg c6).symm.trans hE
          refine j_iconst C 0 dX3_exchange_49 ic_0 ?_
          exact B.2.2 _ _ _ _ dX3_exchange_50 rfl hE
        · have hE := (if_pos c6).symm.trans hE
          have hG := hG.1 c6
          refine j_aload_n C 0 dX3_exchange_37 rfl ?_
          refine j_aload_n C 0 dX3_exchange_38 rfl ?_
          refine j_iload_n C 3 dX3_exchange_39 rfl ?_
          obtain ⟨hg7, hG⟩ := hG
          refine j_cIV C B.2.1 (c_R_second l D z a u (x0.toNatClampNeg) x1 (jk_lt hv4) hg7) gv_3_63 dd_R_second ⟨⟨rfl, rfl⟩, Nat.le_of_ble_eq_true rfl, Nat.le_of_ble_eq_true rfl⟩ (23 + (x0.toNatClampNeg)) 2 (pl_rg (jk_lt hv4)) rfl rfl rfl rfl (Nat.le_of_ble_eq_true rfl) dX3_exchange_40 ?_
          refine j_cIV C B.2.1 (c_R_isBusyWith l D z a u (x0.toNatClampNeg) (f_R_second u (x0.toNatClampNeg) x1) (jk_lt hv4)) gv_3_60 dd_R_isBusyWith ⟨⟨rfl, rfl⟩, Nat.le_of_ble_eq_true rfl, Nat.le_of_ble_eq_true rfl⟩ (23 + (x0.toNatClampNeg)) 2 (pl_rg (jk_lt hv4)) rfl rfl rfl rfl (Nat.le_of_ble_eq_true rfl) dX3_exchange_43 ?_
          refine j_if_eq C 51 dX3_exchange_46 (by decide) (fun c8 => ?_) (fun c8 => ?_)
          · have hE := (if_pos c8).symm.trans hE
            have hG := hG.1 c8
            refine j_aload_n C 0 dX3_exchange_51 rfl ?_
            refine j_get C kf_2 (23 + (x0.toNatClampNeg)) (pl_rg (jk_lt hv4)) 1 (by decide) lk_3_66 rfl dX3_exchange_52 ?_
            refine j_iload_n C 3 dX3_exchange_55 rfl ?_
            refine j_aload_n C 0 dX3_exchange_56 rfl ?_
            refine j_get C kf_2 (23 + (x0.toNatClampNeg)) (pl_rg (jk_lt hv4)) 1 (by decide) lk_3_66 rfl dX3_exchange_57 ?_
            refine j_iload_n C 3 dX3_exchange_60 rfl ?_
            have hv9 := hG
            have lhv9 := jk_lt hv9
            refine j_zald C (25 + (x0.toNatClampNeg)) 1 (pl_ex (jk_lt hv4)) rfl (x1.toNatClampNeg) (jk_self hv9 (by decide)) (jk_lt hv9) (by decide) dX3_exchange_61 ?_
            refine j_if_ne C 69 dX3_exchange_62 (by decide) (fun c10 => ?_) (fun c10 => ?_)
            · have hE := (if_neg c10).symm.trans hE
              refine j_iconst C 0 dX3_exchange_69 ic_0 ?_
              refine j_zast C (25 + (x0.toNatClampNeg)) 1 (pl_ex (jk_lt hv4)) rfl (x1.toNatClampNeg) (jk_self hv9 (by decide)) (jk_lt hv9) (by decide) rfl (pu_ex (jk_lt hv4)) dX3_exchange_70 ?_
              refine j_iconst C 1 dX3_exchange_71 ic_1 ?_
              exact B.2.2 _ _ _ _ dX3_exchange_72 rfl hE
            · have hE := (if_pos c10).symm.trans hE
              refine j_iconst C 1 dX3_exchange_65 ic_1 ?_
              refine j_goto C 70 dX3_exchange_66 (by decide) ?_
              refine j_zast C (25 + (x0.toNatClampNeg)) 1 (pl_ex (jk_lt hv4)) rfl (x1.toNatClampNeg) (jk_self hv9 (by decide)) (jk_lt hv9) (by decide) rfl (pu_ex (jk_lt hv4)) dX3_exchange_70 ?_
              refine j_iconst C 1 dX3_exchange_71 ic_1 ?_
              exact B.2.2 _ _ _ _ dX3_exchange_72 rfl hE
          · have hE := (if_neg c8).symm.trans hE
            refine j_iconst C 0 dX3_exchange_49 ic_0 ?_
            exact B.2.2 _ _ _ _ dX3_exchange_50 rfl hE
      · have hE := (if_neg c3).symm.trans hE
        refine j_iconst C 0 dX3_exchange_16 ic_0 ?_
        exact B.2.2 _ _ _ _ dX3_exchange_17 rfl hE
theorem c_exchange (l : Launch) (D : va_G) (z : Nat → ClassId) (a : Nat → Nat) (u : St) (x0 : Int32) (x1 : Int32) (hG : g_exchange u x0 x1) : CtI l yX3_exchange (.code yX3_exchange cX3_exchange 4 (some .int) :: TT) rm_exchange D clA (tyl z) (cW z a) [.ref (a 0), .int x0, .int x1] u (f_exchange u x0 x1).1 (f_exchange u x0 x1).2 :=
  jk_metI (own := RX3) (by decide) rfl (Nat.le_of_ble_eq_true rfl) (fun _ _ _ _ _ _ _ _ _ _ _ B => w_exchange_0 B x0 x1 rfl hG)
def rm_car : Room := { frames := 2, cells := 0, slots := 0, locals := 42 }
def f_car (u : St) (x0 : Int32) (x1 : Int32) : Int32 × St := (if (f_isMovement x0) = (0 : Int32) then ((0 : Int32), u) else (if x1 < (0 : Int32) then ((0 : Int32), u) else (if x1 ≤ (1 : Int32) then (if x1 = (1 : Int32) then (if (u 11 (x0.toNatClampNeg)) = (1 : Int32) then ((0 : Int32), u) else (if (f_M_has (up2 u 11 (x0.toNatClampNeg) (1 : Int32)) (x0.toNatClampNeg) (2 : Int32)) = (0 : Int32) then ((1 : Int32), (up2 u 11 (x0.toNatClampNeg) (1 : Int32))) else (if (f_isGreen (up2 u 11 (x0.toNatClampNeg) (1 : Int32)) (x0.toNatClampNeg)) = (0 : Int32) then ((1 : Int32), (up2 (up2 u 11 (x0.toNatClampNeg) (1 : Int32)) 12 (x0.toNatClampNeg) (1 : Int32))) else ((1 : Int32), (up2 u 11 (x0.toNatClampNeg) (1 : Int32)))))) else (if (u 11 (x0.toNatClampNeg)) = (0 : Int32) then ((0 : Int32), u) else ((1 : Int32), (up2 u 11 (x0.toNatClampNeg) (0 : Int32))))) else ((0 : Int32), u))))
def g_car (u : St) (x0 : Int32) (x1 : Int32) : Prop := (((f_isMovement x0) = (0 : Int32) → True) ∧ (¬ (f_isMovement x0) = (0 : Int32) → ((x1 < (0 : Int32) → True) ∧ (¬ x1 < (0 : Int32) → ((x1 ≤ (1 : Int32) → (vp_in x0 8)) ∧ (¬ x1 ≤ (1 : Int32) → True))))))
set_option maxRecDepth 20000 in
set_option maxHeartbeats 1000000 in
theorem w_car_0 {F : Int32 × St} {u : St} (B : jk_BI p l e R s m args below meth c cX3_car 5 RX3 TT .int D clA (tyl z) (cW z a) A Q rm_car F) (x0 : Int32) (x1 : Int32) (hE : f_car u x0 x1 = F) (hG : g_car u x0 x1) : JJ p l e R s m args below meth c 0 0 5 D clA (cW z a) A Q 0 [(0, .ref (a 0)), (1, .int x0), (2, .int x1)] u [] := by
  have C := B.1
  unfold f_car at hE
  unfold g_car at hG
  refine j_iload_n C 1 dX3_car_0 rfl ?_
  refine j_cIS C B.2.1 (c_isMovement l D z a u x0) gv_3_36 dd_isMovement ⟨⟨rfl, rfl⟩, Nat.le_of_ble_eq_true rfl, Nat.le_of_ble_eq_true rfl⟩ rfl rfl (Nat.le_of_ble_eq_true rfl) dX3_car_1 ?_
  refine j_if_eq C 16 dX3_car_4 (by decide) (fun c1 => ?_) (fun c1 => ?_)
  · have hE := (if_pos c1).symm.trans hE
    refine j_iconst C 0 dX3_car_16 ic_0 ?_
    exact B.2.2 _ _ _ _ dX3_car_17 rfl hE
  · have hE := (if_neg c1).symm.trans hE
    have hG := hG.2 c1
    refine j_iload_n C 2 dX3_car_7 rfl ?_
    refine j_if_lt C 16 dX3_car_8 (by decide) (fun c2 => ?_) (fun c2 => ?_)
    · have hE := (if_pos c2).symm.trans hE
      refine j_iconst C 0 dX3_car_16 ic_0 ?_
      exact B.2.2 _ _ _ _ dX3_car_17 rfl hE
    · have hE := (if_neg c2).symm.trans hE
      have hG := hG.2 c2
      refine j_iload_n C 2 dX3_car_11 rfl ?_
      refine j_iconst C 1 dX3_car_12 ic_1 ?_
      refine j_icmp_le C 18 dX3_car_13 (by decide) (fun c3 => ?_) (fun c3 => ?_)
      · have hE := (if_pos c3).symm.trans hE
        have hG := hG.1 c3
        refine j_aload_n C 0 dX3_car_18 rfl ?_
        refine j_get C kf_3 0 pl_desk 0 (by decide) lk_3_11 rfl dX3_car_19 ?_
        refine j_iload_n C 1 dX3_car_22 rfl ?_
        have hv4 := hG
        have lhv4 := jk_lt hv4
        refine j_aald C 1 2 pl_mvs rfl (x0.toNatClampNeg) (jk_self hv4 (by decide)) (jk_lt hv4) (by decide) rfl dX3_car_23 ?_
        refine j_astore_n C dX3_car_24 (by decide) rfl ?_
        refine j_iload_n C 3 dX3_car_25 rfl ?_
        refine j_iconst C 1 dX3_car_26 ic_1 ?_
        refine j_icmp_ne C 34 dX3_car_27 (by decide) (fun c5 => ?_) (fun c5 => ?_)
        · have hE := (if_neg c5).symm.trans hE
          refine j_iconst C 0 dX3_car_34 ic_0 ?_
          refine j_istore C dX3_car_35 (by decide) rfl ?_
          refine j_aload_n C 1 dX3_car_37 rfl ?_
          refine j_get C kf_1 (7 + (x0.toNatClampNeg)) (pl_mv (jk_lt hv4)) 2 (by decide) lk_3_70 rfl dX3_car_38 ?_
          refine j_iload C 0 dX3_car_41 rfl ?_
          refine j_icmp_ne C 48 dX3_car_43 (by decide) (fun c6 => ?_) (fun c6 => ?_)
          · have hE := (if_neg c6).symm.trans hE
            refine j_aload_n C 1 dX3_car_48 rfl ?_
            refine j_iload C 0 dX3_car_49 rfl ?_
            refine j_put C kf_1 (7 + (x0.toNatClampNeg)) (pl_mv (jk_lt hv4)) 2 (by decide) lk_3_70 rfl rfl rfl (Nat.le_of_ble_eq_true rfl) (pu_mv_car (jk_lt hv4)) dX3_car_51 ?_
            refine j_iload C 0 dX3_car_54 rfl ?_
            refine j_if_eq C 80 dX3_car_56 (by decide) (fun _ => ?_) (fun hq => False.elim (by revert hq; decide))
            refine j_iconst C 1 dX3_car_80 ic_1 ?_
            exact B.2.2 _ _ _ _ dX3_car_81 rfl hE
          · have hE := (if_pos c6).symm.trans hE
            refine j_iconst C 0 dX3_car_46 ic_0 ?_
            exact B.2.2 _ _ _ _ dX3_car_47 rfl hE
        · have hE := (if_pos c5).symm.trans hE
          refine j_iconst C 1 dX3_car_30 ic_1 ?_
          refine j_goto C 35 dX3_car_31 (by decide) ?_
          refine j_istore C dX3_car_35 (by decide) rfl ?_
          refine j_aload_n C 1 dX3_car_37 rfl ?_
          refine j_get C kf_1 (7 + (x0.toNatClampNeg)) (pl_mv (jk_lt hv4)) 2 (by decide) lk_3_70 rfl dX3_car_38 ?_
          refine j_iload C 0 dX3_car_41 rfl ?_
          refine j_icmp_ne C 48 dX3_car_43 (by decide) (fun c7 => ?_) (fun c7 => ?_)
          · have hE := (if_neg c7).symm.trans hE
            refine j_aload_n C 1 dX3_car_48 rfl ?_
            refine j_iload C 0 dX3_car_49 rfl ?_
            refine j_put C kf_1 (7 + (x0.toNatClampNeg)) (pl_mv (jk_lt hv4)) 2 (by decide) lk_3_70 rfl rfl rfl (Nat.le_of_ble_eq_true rfl) (pu_mv_car (jk_lt hv4)) dX3_car_51 ?_
            refine j_iload C 0 dX3_car_54 rfl ?_
            refine j_if_eq C 80 dX3_car_56 (by decide) (fun hq => False.elim (by revert hq; decide)) (fun _ => ?_)
            refine j_aload_n C 1 dX3_car_59 rfl ?_
            refine j_iconst C 2 dX3_car_60 ic_2 ?_
            refine j_cIV C B.2.1 (c_M_has l D z a (up2 u 11 (x0.toNatClampNeg) (1 : Int32)) (x0.toNatClampNeg) (2 : Int32) (jk_lt hv4)) gv_3_74 dd_M_has ⟨⟨rfl, rfl⟩, Nat.le_of_ble_eq_true rfl, Nat.le_of_ble_eq_true rfl⟩ (7 + (x0.toNatClampNeg)) 1 (pl_mv (jk_lt hv4)) rfl rfl rfl rfl (Nat.le_of_ble_eq_true rfl) dX3_car_61 ?_
            refine j_if_eq C 80 dX3_car_64 (by decide) (fun c8 => ?_) (fun c8 => ?_)
            · have hE := (if_pos c8).symm.trans hE
              refine j_iconst C 1 dX3_car_80 ic_1 ?_
              exact B.2.2 _ _ _ _ dX3_car_81 rfl hE
            · have hE := (if_neg c8).symm.trans hE
              refine j_aload_n C 2 dX3_car_67 rfl ?_
              refine j_iload_n C 3 dX3_car_68 rfl ?_
              refine j_st (st' := [.int (nI (x0.toNatClampNeg)), .ref (a 0)]) (congrArg (fun x => ([.int x, .ref (a 0)] : List Value)) (jk_self hv4 (by decide))) ?_
              refine j_cIV C B.2.1 (c_isGreen l D z a (up2 u 11 (x0.toNatClampNeg) (1 : Int32)) (x0.toNatClampNeg) (jk_lt hv4)) gv_3_77 dd_isGreen ⟨⟨rfl, rfl⟩, Nat.le_of_ble_eq_true rfl, Nat.le_of_ble_eq_true rfl⟩ 0 3 pl_desk rfl rfl rfl rfl (Nat.le_of_ble_eq_true rfl) dX3_car_69 ?_
              refine j_if_ne C 80 dX3_car_72 (by decide) (fun c9 => ?_) (fun c9 => ?_)
              · have hE := (if_neg c9).symm.trans hE
                refine j_iconst C 1 dX3_car_80 ic_1 ?_
                exact B.2.2 _ _ _ _ dX3_car_81 rfl hE
              · have hE := (if_pos c9).symm.trans hE
                refine j_aload_n C 1 dX3_car_75 rfl ?_
                refine j_iconst C 1 dX3_car_76 ic_1 ?_
                refine j_put C kf_1 (7 + (x0.toNatClampNeg)) (pl_mv (jk_lt hv4)) 3 (by decide) lk_3_80 rfl rfl rfl (Nat.le_of_ble_eq_true rfl) (pu_mv_remembered (jk_lt hv4)) dX3_car_77 ?_
                refine j_iconst C 1 dX3_car_80 ic_1 ?_
                exact B.2.2 _ _ _ _ dX3_car_81 rfl hE
          · have hE := (if_pos c7).symm.trans hE
            refine j_iconst C 0 dX3_car_46 ic_0 ?_
            exact B.2.2 _ _ _ _ dX3_car_47 rfl hE
      · have hE := (if_neg c3).symm.trans hE
        refine j_iconst C 0 dX3_car_16 ic_0 ?_
        exact B.2.2 _ _ _ _ dX3_car_17 rfl hE
theorem c_car (l : Launch) (D : va_G) (z : Nat → ClassId) (a : Nat → Nat) (u : St) (x0 : Int32) (x1 : Int32) (hG : g_car u x0 x1) : CtI l yX3_car (.code yX3_car cX3_car 5 (some .int) :: TT) rm_car D clA (tyl z) (cW z a) [.ref (a 0), .int x0, .int x1] u (f_car u x0 x1).1 (f_car u x0 x1).2 :=
  jk_metI (own := RX3) (by decide) rfl (Nat.le_of_ble_eq_true rfl) (fun _ _ _ _ _ _ _ _ _ _ _ B => w_car_0 B x0 x1 rfl hG)
def rm_push : Room := { frames := 1, cells := 0, slots := 0, locals := 20 }
def f_push (u : St) (x0 : Int32) : Int32 × St := (if (f_isMovement x0) = (0 : Int32) then ((0 : Int32), u) else (if (u 13 (x0.toNatClampNeg)) = (0 : Int32) then ((1 : Int32), (up2 u 13 (x0.toNatClampNeg) (1 : Int32))) else ((0 : Int32), u)))
def g_push (u : St) (x0 : Int32) : Prop := (((f_isMovement x0) = (0 : Int32) → True) ∧ (¬ (f_isMovement x0) = (0 : Int32) → (vp_in x0 8)))
set_option maxRecDepth 20000 in
set_option maxHeartbeats 1000000 in
theorem w_push_0 {F : Int32 × St} {u : St} (B : jk_BI p l e R s m args below meth c cX3_push 2 RX3 TT .int D clA (tyl z) (cW z a) A Q rm_push F) (x0 : Int32) (hE : f_push u x0 = F) (hG : g_push u x0) : JJ p l e R s m args below meth c 0 0 2 D clA (cW z a) A Q 0 [(0, .ref (a 0)), (1, .int x0)] u [] := by
  have C := B.1
  unfold f_push at hE
  unfold g_push at hG
  refine j_iload_n C 1 dX3_push_0 rfl ?_
  refine j_cIS C B.2.1 (c_isMovement l D z a u x0) gv_3_36 dd_isMovement ⟨⟨rfl, rfl⟩, Nat.le_of_ble_eq_true rfl, Nat.le_of_ble_eq_true rfl⟩ rfl rfl (Nat.le_of_ble_eq_true rfl) dX3_push_1 ?_
  refine j_if_eq C 19 dX3_push_4 (by decide) (fun c1 => ?_) (fun c1 => ?_)
  · have hE := (if_pos c1).symm.trans hE
    refine j_iconst C 0 dX3_push_19 ic_0 ?_
    exact B.2.2 _ _ _ _ dX3_push_20 rfl hE
  · have hE := (if_neg c1).symm.trans hE
    have hG := hG.2 c1
    refine j_aload_n C 0 dX3_push_7 rfl ?_
    refine j_get C kf_3 0 pl_desk 0 (by decide) lk_3_11 rfl dX3_push_8 ?_
    refine j_iload_n C 1 dX3_push_11 rfl ?_
    have hv2 := hG
    have lhv2 := jk_lt hv2
    refine j_aald C 1 2 pl_mvs rfl (x0.toNatClampNeg) (jk_self hv2 (by decide)) (jk_lt hv2) (by decide) rfl dX3_push_12 ?_
    refine j_get C kf_1 (7 + (x0.toNatClampNeg)) (pl_mv (jk_lt hv2)) 4 (by decide) lk_3_83 rfl dX3_push_13 ?_
    refine j_if_eq C 21 dX3_push_16 (by decide) (fun c3 => ?_) (fun c3 => ?_)
    · have hE := (if_pos c3).symm.trans hE
      refine j_aload_n C 0 dX3_push_21 rfl ?_
      refine j_get C kf_3 0 pl_desk 0 (by decide) lk_3_11 rfl dX3_push_22 ?_
      refine j_iload_n C 1 dX3_push_25 rfl ?_
      refine j_aald C 1 2 pl_mvs rfl (x0.toNatClampNeg) (jk_self hv2 (by decide)) (jk_lt hv2) (by decide) rfl dX3_push_26 ?_
      refine j_iconst C 1 dX3_push_27 ic_1 ?_
      refine j_put C kf_1 (7 + (x0.toNatClampNeg)) (pl_mv (jk_lt hv2)) 4 (by decide) lk_3_83 rfl rfl rfl (Nat.le_of_ble_eq_true rfl) (pu_mv_pushed (jk_lt hv2)) dX3_push_28 ?_
      refine j_iconst C 1 dX3_push_31 ic_1 ?_
      exact B.2.2 _ _ _ _ dX3_push_32 rfl hE
    · have hE := (if_neg c3).symm.trans hE
      refine j_iconst C 0 dX3_push_19 ic_0 ?_
      exact B.2.2 _ _ _ _ dX3_push_20 rfl hE
theorem c_push (l : Launch) (D : va_G) (z : Nat → ClassId) (a : Nat → Nat) (u : St) (x0 : Int32) (hG : g_push u x0) : CtI l yX3_push (.code yX3_push cX3_push 2 (some .int) :: TT) rm_push D clA (tyl z) (cW z a) [.ref (a 0), .int x0] u (f_push u x0).1 (f_push u x0).2 :=
  jk_metI (own := RX3) (by decide) rfl (Nat.le_of_ble_eq_true rfl) (fun _ _ _ _ _ _ _ _ _ _ _ B => w_push_0 B x0 rfl hG)
def rm_stick : Room := { frames := 1, cells := 0, slots := 0, locals := 20 }
def f_stick (u : St) (x0 : Int32) (x1 : Int32) : Int32 × St := (if (f_isMovement x0) = (0 : Int32) then ((0 : Int32), u) else (if x1 < (-1 : Int32) then ((0 : Int32), u) else (if x1 ≤ (2 : Int32) then ((1 : Int32), (up2 u 17 (x0.toNatClampNeg) x1)) else ((0 : Int32), u))))
def g_stick (u : St) (x0 : Int32) (x1 : Int32) : Prop := (((f_isMovement x0) = (0 : Int32) → True) ∧ (¬ (f_isMovement x0) = (0 : Int32) → ((x1 < (-1 : Int32) → True) ∧ (¬ x1 < (-1 : Int32) → ((x1 ≤ (2 : Int32) → (vp_in x0 8)) ∧ (¬ x1 ≤ (2 : Int32) → True))))))
set_option maxRecDepth 20000 in
set_option maxHeartbeats 1000000 in
theorem w_stick_0 {F : Int32 × St} {u : St} (B : jk_BI p l e R s m args below meth c cX3_stick 3 RX3 TT .int D clA (tyl z) (cW z a) A Q rm_stick F) (x0 : Int32) (x1 : Int32) (hE : f_stick u x0 x1 = F) (hG : g_stick u x0 x1) : JJ p l e R s m args below meth c 0 0 3 D clA (cW z a) A Q 0 [(0, .ref (a 0)), (1, .int x0), (2, .int x1)] u [] := by
  have C := B.1
  unfold f_stick at hE
  unfold g_stick at hG
  refine j_iload_n C 1 dX3_stick_0 rfl ?_
  refine j_cIS C B.2.1 (c_isMovement l D z a u x0) gv_3_36 dd_isMovement ⟨⟨rfl, rfl⟩, Nat.le_of_ble_eq_true rfl, Nat.le_of_ble_eq_true rfl⟩ rfl rfl (Nat.le_of_ble_eq_true rfl) dX3_stick_1 ?_
  refine j_if_eq C 17 dX3_stick_4 (by decide) (fun c1 => ?_) (fun c1 => ?_)
  · have hE := (if_pos c1).symm.trans hE
    refine j_iconst C 0 dX3_stick_17 ic_0 ?_
    exact B.2.2 _ _ _ _ dX3_stick_18 rfl hE
  · have hE := (if_neg c1).symm.trans hE
    have hG := hG.2 c1
    refine j_iload_n C 2 dX3_stick_7 rfl ?_
    refine j_iconst C (-1) dX3_stick_8 ic_m1 ?_
    refine j_icmp_lt C 17 dX3_stick_9 (by decide) (fun c2 => ?_) (fun c2 => ?_)
    · have hE := (if_pos c2).symm.trans hE
      refine j_iconst C 0 dX3_stick_17 ic_0 ?_
      exact B.2.2 _ _ _ _ dX3_stick_18 rfl hE
    · have hE := (if_neg c2).symm.trans hE
      have hG := hG.2 c2
      refine j_iload_n C 2 dX3_stick_12 rfl ?_
      refine j_iconst C 2 dX3_stick_13 ic_2 ?_
      refine j_icmp_le C 19 dX3_stick_14 (by decide) (fun c3 => ?_) (fun c3 => ?_)
      · have hE := (if_pos c3).symm.trans hE
        have hG := hG.1 c3
        refine j_aload_n C 0 dX3_stick_19 rfl ?_
        refine j_get C kf_3 0 pl_desk 0 (by decide) lk_3_11 rfl dX3_stick_20 ?_
        refine j_iload_n C 1 dX3_stick_23 rfl ?_
        have hv4 := hG
        have lhv4 := jk_lt hv4
        refine j_aald C 1 2 pl_mvs rfl (x0.toNatClampNeg) (jk_self hv4 (by decide)) (jk_lt hv4) (by decide) rfl dX3_stick_24 ?_
        refine j_iload_n C 2 dX3_stick_25 rfl ?_
        refine j_put C kf_1 (7 + (x0.toNatClampNeg)) (pl_mv (jk_lt hv4)) 8 (by decide) lk_3_86 rfl rfl rfl (Nat.le_of_ble_eq_true rfl) (pu_mv_stuck (jk_lt hv4)) dX3_stick_26 ?_
        refine j_iconst C 1 dX3_stick_29 ic_1 ?_
        exact B.2.2 _ _ _ _ dX3_stick_30 rfl hE
      · have hE := (if_neg c3).symm.trans hE
        refine j_iconst C 0 dX3_stick_17 ic_0 ?_
        exact B.2.2 _ _ _ _ dX3_stick_18 rfl hE
theorem c_stick (l : Launch) (D : va_G) (z : Nat → ClassId) (a : Nat → Nat) (u : St) (x0 : Int32) (x1 : Int32) (hG : g_stick u x0 x1) : CtI l yX3_stick (.code yX3_stick cX3_stick 3 (some .int) :: TT) rm_stick D clA (tyl z) (cW z a) [.ref (a 0), .int x0, .int x1] u (f_stick u x0 x1).1 (f_stick u x0 x1).2 :=
  jk_metI (own := RX3) (by decide) rfl (Nat.le_of_ble_eq_true rfl) (fun _ _ _ _ _ _ _ _ _ _ _ B => w_stick_0 B x0 x1 rfl hG)
def rm_restart : Room := { frames := 2, cells := 0, slots := 0, locals := 41 }
def f_restart_11  : Nat → Nat → St → Int32 × St
  | 0, i, u => ((1 : Int32), (f_G_forget (up2 (up2 u 0 2 (0 : Int32)) 0 1 (0 : Int32))))
  | n + 1, i, u => (f_restart_11 n (i + 1) (up2 (f_R_goDark u i) 35 i (-1 : Int32)))
set_option maxRecDepth 20000 in
set_option maxHeartbeats 1000000 in
theorem w_restart_11 {F : Int32 × St} (B : jk_BI p l e R s m args below meth c cX3_restart 2 RX3 TT .int D clA (tyl z) (cW z a) A Q rm_restart F)  : ∀ (n i : Nat) (u : St), i + n = 2 → f_restart_11 n i u = F → JJ p l e R s m args below meth c 0 0 2 D clA (cW z a) A Q 11 [(1, .int (nI i)), (0, .ref (a 0))] u [] := by
  have C := B.1
  intro n
  induction n with
  | zero =>
    intro i u hin hE
    obtain rfl : i = 2 := by omega
    have hge : (2 : Int32) ≤ nI 2 := by decide
    refine j_iload_n C 0 dX3_restart_11 rfl ?_
    refine j_iconst C 2 dX3_restart_12 ic_2 ?_
    refine j_icmp_ge C 41 dX3_restart_13 (by decide) (fun _ => ?_) (fun hq => absurd hge hq)
    refine j_aload_n C 1 dX3_restart_41 rfl ?_
    refine j_iconst C 0 dX3_restart_42 ic_0 ?_
    refine j_put C kf_3 0 pl_desk 6 (by decide) lk_3_103 rfl rfl rfl (Nat.le_of_ble_eq_true rfl) pu_desk_crossing dX3_restart_43 ?_
    refine j_aload_n C 1 dX3_restart_46 rfl ?_
    refine j_iconst C 0 dX3_restart_47 ic_0 ?_
    refine j_put C kf_3 0 pl_desk 5 (by decide) lk_3_106 rfl rfl rfl (Nat.le_of_ble_eq_true rfl) pu_desk_side dX3_restart_48 ?_
    refine j_aload_n C 1 dX3_restart_51 rfl ?_
    refine j_get C kf_3 0 pl_desk 2 (by decide) lk_3_28 rfl dX3_restart_52 ?_
    refine j_cVV C B.2.1 (c_G_forget l D z a (up2 (up2 u 0 2 (0 : Int32)) 0 1 (0 : Int32))) gv_3_109 dd_G_forget ⟨⟨rfl, rfl⟩, Nat.le_of_ble_eq_true rfl, Nat.le_of_ble_eq_true rfl⟩ 3 0 pl_guard rfl rfl rfl rfl (Nat.le_of_ble_eq_true rfl) dX3_restart_55 ?_
    refine j_iconst C 1 dX3_restart_58 ic_1 ?_
    exact B.2.2 _ _ _ _ dX3_restart_59 rfl hE
  | succ n ih =>
    intro i u hin hE
    have hlt : i < 2 := by omega
    have hnge : ¬ (2 : Int32) ≤ nI i := lt2 i hlt
    refine j_iload_n C 0 dX3_restart_11 rfl ?_
    refine j_iconst C 2 dX3_restart_12 ic_2 ?_
    refine j_icmp_ge C 41 dX3_restart_13 (by decide) (fun hq => absurd hq hnge) (fun _ => ?_)
    refine j_aload_n C 1 dX3_restart_16 rfl ?_
    refine j_get C kf_3 0 pl_desk 1 (by decide) lk_3_18 rfl dX3_restart_17 ?_
    refine j_iload_n C 0 dX3_restart_20 rfl ?_
    refine j_aald C 2 3 pl_rgs rfl i rfl hlt (by decide) rfl dX3_restart_21 ?_
    refine j_cVV C B.2.1 (c_R_goDark l D z a u i hlt) gv_3_97 dd_R_goDark ⟨⟨rfl, rfl⟩, Nat.le_of_ble_eq_true rfl, Nat.le_of_ble_eq_true rfl⟩ (23 + i) 2 (pl_rg hlt) rfl rfl rfl rfl (Nat.le_of_ble_eq_true rfl) dX3_restart_22 ?_
    refine j_aload_n C 1 dX3_restart_25 rfl ?_
    refine j_get C kf_3 0 pl_desk 1 (by decide) lk_3_18 rfl dX3_restart_26 ?_
    refine j_iload_n C 0 dX3_restart_29 rfl ?_
    refine j_aald C 2 3 pl_rgs rfl i rfl hlt (by decide) rfl dX3_restart_30 ?_
    refine j_iconst C (-1) dX3_restart_31 ic_m1 ?_
    refine j_put C kf_2 (23 + i) (pl_rg hlt) 7 (by decide) lk_3_100 rfl rfl rfl (Nat.le_of_ble_eq_true rfl) (pu_rg_next hlt) dX3_restart_32 ?_
    refine j_iinc C 0 (nI (i + 1)) dX3_restart_35 rfl (nI_1 _) (by decide) rfl ?_
    refine j_goto C 11 dX3_restart_38 (by decide) ?_
    exact ih (i + 1) (up2 (f_R_goDark u i) 35 i (-1 : Int32)) (by omega) hE
def f_restart (u : St)  : Int32 × St := (if (f_isFlashing u) = (0 : Int32) then ((0 : Int32), u) else (f_restart_11 2 0 u))
set_option maxRecDepth 20000 in
set_option maxHeartbeats 1000000 in
theorem w_restart_0 {F : Int32 × St} {u : St} (B : jk_BI p l e R s m args below meth c cX3_restart 2 RX3 TT .int D clA (tyl z) (cW z a) A Q rm_restart F)  (hE : f_restart u = F) : JJ p l e R s m args below meth c 0 0 2 D clA (cW z a) A Q 0 [(0, .ref (a 0))] u [] := by
  have C := B.1
  unfold f_restart at hE
  refine j_aload_n C 0 dX3_restart_0 rfl ?_
  refine j_cIV C B.2.1 (c_isFlashing l D z a u) gv_3_93 dd_isFlashing ⟨⟨rfl, rfl⟩, Nat.le_of_ble_eq_true rfl, Nat.le_of_ble_eq_true rfl⟩ 0 3 pl_desk rfl rfl rfl rfl (Nat.le_of_ble_eq_true rfl) dX3_restart_1 ?_
  refine j_if_ne C 9 dX3_restart_4 (by decide) (fun c1 => ?_) (fun c1 => ?_)
  · have hE := (if_neg c1).symm.trans hE
    refine j_iconst C 0 dX3_restart_9 ic_0 ?_
    refine j_istore_n C dX3_restart_10 (by decide) rfl ?_
    refine j_lq (congrArg (fun x => ([(1, .int x), (0, .ref (a 0))] : List (Nat × Value))) ix_0) ?_
    exact w_restart_11 B 2 0 u (by omega) hE
  · have hE := (if_pos c1).symm.trans hE
    refine j_iconst C 0 dX3_restart_7 ic_0 ?_
    exact B.2.2 _ _ _ _ dX3_restart_8 rfl hE
theorem c_restart (l : Launch) (D : va_G) (z : Nat → ClassId) (a : Nat → Nat) (u : St)  : CtI l yX3_restart (.code yX3_restart cX3_restart 2 (some .int) :: TT) rm_restart D clA (tyl z) (cW z a) [.ref (a 0)] u (f_restart u).1 (f_restart u).2 :=
  jk_metI (own := RX3) (by decide) rfl (Nat.le_of_ble_eq_true rfl) (fun _ _ _ _ _ _ _ _ _ _ _ B => w_restart_0 B rfl)
end WLK
end
section
section WLK
variable {p : Program} {l : Launch} {e : Env} {R : Room} {s : State} {m : MethodId} {args : Array Value} {below : List Frame} {meth : Method} {c : Code} {D : va_G} {z : Nat → ClassId} {a : Nat → Nat} {A : Nat → Prop} {Q : State → Prop}
def rm_of : Room := { frames := 3, cells := 0, slots := 0, locals := 64 }
def f_of (u : St) (x0 : Int32) (x1 : Int32) : Int32 := (if (f_isMovement x0) = (0 : Int32) then (-1 : Int32) else (if x1 = (0 : Int32) then (if (f_isFlashing u) = (0 : Int32) then (f_shownLight u (x0.toNatClampNeg)) else (3 : Int32)) else (if x1 = (1 : Int32) then (if (f_isGreen u (x0.toNatClampNeg)) = (0 : Int32) then (0 : Int32) else (f_R_walking u ((x0.toNatClampNeg) / 4))) else (if x1 = (2 : Int32) then (f_number (f_isCalled u (x0.toNatClampNeg))) else (if x1 = (3 : Int32) then (u 14 (x0.toNatClampNeg)) else (if x1 = (4 : Int32) then (u 15 (x0.toNatClampNeg)) else (if x1 = (5 : Int32) then (u 16 (x0.toNatClampNeg)) else (if x1 = (6 : Int32) then (f_number (u 11 (x0.toNatClampNeg))) else (if x1 = (7 : Int32) then (f_number (u 13 (x0.toNatClampNeg))) else (if x1 = (8 : Int32) then (f_number (u 12 (x0.toNatClampNeg))) else (-1 : Int32)))))))))))
def g_of (u : St) (x0 : Int32) (x1 : Int32) : Prop := (((f_isMovement x0) = (0 : Int32) → True) ∧ (¬ (f_isMovement x0) = (0 : Int32) → (vp_in x0 8)))
set_option maxRecDepth 20000 in
set_option maxHeartbeats 1000000 in
theorem w_of_0 {Fr : Int32} {u : St} (B : jk_BI p l e R s m args below meth c cX3_of 4 RX3 TT .int D clA (tyl z) (cW z a) A Q rm_of (Fr, u)) (x0 : Int32) (x1 : Int32) (hE : f_of u x0 x1 = Fr) (hG : g_of u x0 x1) : JJ p l e R s m args below meth c 0 0 4 D clA (cW z a) A Q 0 [(0, .ref (a 0)), (1, .int x0), (2, .int x1)] u [] := by
  have C := B.1
  unfold f_of at hE
  unfold g_of at hG
  refine j_iload_n C 1 dX3_of_0 rfl ?_
  refine j_cIS C B.2.1 (c_isMovement l D z a u x0) gv_3_36 dd_isMovement ⟨⟨rfl, rfl⟩, Nat.le_of_ble_eq_true rfl, Nat.le_of_ble_eq_true rfl⟩ rfl rfl (Nat.le_of_ble_eq_true rfl) dX3_of_1 ?_
  refine j_if_ne C 9 dX3_of_4 (by decide) (fun c1 => ?_) (fun c1 => ?_)
  · have hE := (if_neg c1).symm.trans hE
    have hG := hG.2 c1
    refine j_aload_n C 0 dX3_of_9 rfl ?_
    refine j_get C kf_3 0 pl_desk 0 (by decide) lk_3_11 rfl dX3_of_10 ?_
    refine j_iload_n C 1 dX3_of_13 rfl ?_
    have hv2 := hG
    have lhv2 := jk_lt hv2
    refine j_aald C 1 2 pl_mvs rfl (x0.toNatClampNeg) (jk_self hv2 (by decide)) (jk_lt hv2) (by decide) rfl dX3_of_14 ?_
    refine j_astore_n C dX3_of_15 (by decide) rfl ?_
    refine j_iload_n C 3 dX3_of_16 rfl ?_
    by_cases t0 : x1 = (0 : Int32)
    · have hE := (if_pos t0).symm.trans hE
      refine j_tableIn C 68 dX3_of_17 (by rw [t0]; decide) (by rw [t0]; decide) (by rw [t0]; rfl) (by decide) ?_
      refine j_aload_n C 1 dX3_of_68 rfl ?_
      refine j_cIV C B.2.1 (c_isFlashing l D z a u) gv_3_93 dd_isFlashing ⟨⟨rfl, rfl⟩, Nat.le_of_ble_eq_true rfl, Nat.le_of_ble_eq_true rfl⟩ 0 3 pl_desk rfl rfl rfl rfl (Nat.le_of_ble_eq_true rfl) dX3_of_69 ?_
      refine j_if_eq C 79 dX3_of_72 (by decide) (fun c3 => ?_) (fun c3 => ?_)
      · have hE := (if_pos c3).symm.trans hE
        refine j_aload_n C 1 dX3_of_79 rfl ?_
        refine j_iload_n C 2 dX3_of_80 rfl ?_
        refine j_st (st' := [.int (nI (x0.toNatClampNeg)), .ref (a 0)]) (congrArg (fun x => ([.int x, .ref (a 0)] : List Value)) (jk_self hv2 (by decide))) ?_
        refine j_cIV C B.2.1 (c_shownLight l D z a u (x0.toNatClampNeg) (jk_lt hv2)) gv_3_112 dd_shownLight ⟨⟨rfl, rfl⟩, Nat.le_of_ble_eq_true rfl, Nat.le_of_ble_eq_true rfl⟩ 0 3 pl_desk rfl rfl rfl rfl (Nat.le_of_ble_eq_true rfl) dX3_of_81 ?_
        exact B.2.2 _ _ _ _ dX3_of_84 rfl (congrArg (fun x => (x, u)) hE)
      · have hE := (if_neg c3).symm.trans hE
        refine j_iconst C 3 dX3_of_75 ic_3 ?_
        refine j_goto C 84 dX3_of_76 (by decide) ?_
        exact B.2.2 _ _ _ _ dX3_of_84 rfl (congrArg (fun x => (x, u)) hE)
    · have hE := (if_neg t0).symm.trans hE
      by_cases t1 : x1 = (1 : Int32)
      · have hE := (if_pos t1).symm.trans hE
        refine j_tableIn C 85 dX3_of_17 (by rw [t1]; decide) (by rw [t1]; decide) (by rw [t1]; rfl) (by decide) ?_
        refine j_aload_n C 1 dX3_of_85 rfl ?_
        refine j_iload_n C 2 dX3_of_86 rfl ?_
        refine j_st (st' := [.int (nI (x0.toNatClampNeg)), .ref (a 0)]) (congrArg (fun x => ([.int x, .ref (a 0)] : List Value)) (jk_self hv2 (by decide))) ?_
        refine j_cIV C B.2.1 (c_isGreen l D z a u (x0.toNatClampNeg) (jk_lt hv2)) gv_3_77 dd_isGreen ⟨⟨rfl, rfl⟩, Nat.le_of_ble_eq_true rfl, Nat.le_of_ble_eq_true rfl⟩ 0 3 pl_desk rfl rfl rfl rfl (Nat.le_of_ble_eq_true rfl) dX3_of_87 ?_
        refine j_if_eq C 108 dX3_of_90 (by decide) (fun c4 => ?_) (fun c4 => ?_)
        · have hE := (if_pos c4).symm.trans hE
          refine j_iconst C 0 dX3_of_108 ic_0 ?_
          exact B.2.2 _ _ _ _ dX3_of_109 rfl (congrArg (fun x => (x, u)) hE)
        · have hE := (if_neg c4).symm.trans hE
          refine j_aload_n C 1 dX3_of_93 rfl ?_
          refine j_get C kf_3 0 pl_desk 1 (by decide) lk_3_18 rfl dX3_of_94 ?_
          refine j_iload_n C 2 dX3_of_97 rfl ?_
          refine j_st (st' := [.int (nI (x0.toNatClampNeg)), .ref (a 2)]) (congrArg (fun x => ([.int x, .ref (a 2)] : List Value)) (jk_self hv2 (by decide))) ?_
          refine j_cIS C B.2.1 (c_ringOf l D z a u (x0.toNatClampNeg) (jk_lt hv2)) gv_3_115 dd_ringOf ⟨⟨rfl, rfl⟩, Nat.le_of_ble_eq_true rfl, Nat.le_of_ble_eq_true rfl⟩ rfl rfl (Nat.le_of_ble_eq_true rfl) dX3_of_98 ?_
          refine j_aald C 2 3 pl_rgs rfl ((x0.toNatClampNeg) / 4) rfl (by omega) (by decide) rfl dX3_of_101 ?_
          refine j_cIV C B.2.1 (c_R_walking l D z a u ((x0.toNatClampNeg) / 4) (by omega)) gv_3_118 dd_R_walking ⟨⟨rfl, rfl⟩, Nat.le_of_ble_eq_true rfl, Nat.le_of_ble_eq_true rfl⟩ (23 + ((x0.toNatClampNeg) / 4)) 2 (pl_rg (by omega)) rfl rfl rfl rfl (Nat.le_of_ble_eq_true rfl) dX3_of_102 ?_
          refine j_goto C 109 dX3_of_105 (by decide) ?_
          exact B.2.2 _ _ _ _ dX3_of_109 rfl (congrArg (fun x => (x, u)) hE)
      · have hE := (if_neg t1).symm.trans hE
        by_cases t2 : x1 = (2 : Int32)
        · have hE := (if_pos t2).symm.trans hE
          refine j_tableIn C 110 dX3_of_17 (by rw [t2]; decide) (by rw [t2]; decide) (by rw [t2]; rfl) (by decide) ?_
          refine j_aload_n C 1 dX3_of_110 rfl ?_
          refine j_iload_n C 2 dX3_of_111 rfl ?_
          refine j_st (st' := [.int (nI (x0.toNatClampNeg)), .ref (a 0)]) (congrArg (fun x => ([.int x, .ref (a 0)] : List Value)) (jk_self hv2 (by decide))) ?_
          refine j_cIV C B.2.1 (c_isCalled l D z a u (x0.toNatClampNeg) (jk_lt hv2)) gv_3_121 dd_isCalled ⟨⟨rfl, rfl⟩, Nat.le_of_ble_eq_true rfl, Nat.le_of_ble_eq_true rfl⟩ 0 3 pl_desk rfl rfl rfl rfl (Nat.le_of_ble_eq_true rfl) dX3_of_112 ?_
          refine j_cIS C B.2.1 (c_number l D z a u (f_isCalled u (x0.toNatClampNeg))) gv_3_124 dd_number ⟨⟨rfl, rfl⟩, Nat.le_of_ble_eq_true rfl, Nat.le_of_ble_eq_true rfl⟩ rfl rfl (Nat.le_of_ble_eq_true rfl) dX3_of_115 ?_
          exact B.2.2 _ _ _ _ dX3_of_118 rfl (congrArg (fun x => (x, u)) hE)
        · have hE := (if_neg t2).symm.trans hE
          by_cases t3 : x1 = (3 : Int32)
          · have hE := (if_pos t3).symm.trans hE
            refine j_tableIn C 119 dX3_of_17 (by rw [t3]; decide) (by rw [t3]; decide) (by rw [t3]; rfl) (by decide) ?_
            refine j_aload_n C 0 dX3_of_119 rfl ?_
            refine j_get C kf_1 (7 + (x0.toNatClampNeg)) (pl_mv (jk_lt hv2)) 5 (by decide) lk_3_128 rfl dX3_of_120 ?_
            exact B.2.2 _ _ _ _ dX3_of_123 rfl (congrArg (fun x => (x, u)) hE)
          · have hE := (if_neg t3).symm.trans hE
            by_cases t4 : x1 = (4 : Int32)
            · have hE := (if_pos t4).symm.trans hE
              refine j_tableIn C 124 dX3_of_17 (by rw [t4]; decide) (by rw [t4]; decide) (by rw [t4]; rfl) (by decide) ?_
              refine j_aload_n C 0 dX3_of_124 rfl ?_
              refine j_get C kf_1 (7 + (x0.toNatClampNeg)) (pl_mv (jk_lt hv2)) 6 (by decide) lk_3_131 rfl dX3_of_125 ?_
              exact B.2.2 _ _ _ _ dX3_of_128 rfl (congrArg (fun x => (x, u)) hE)
            · have hE := (if_neg t4).symm.trans hE
              by_cases t5 : x1 = (5 : Int32)
              · have hE := (if_pos t5).symm.trans hE
                refine j_tableIn C 129 dX3_of_17 (by rw [t5]; decide) (by rw [t5]; decide) (by rw [t5]; rfl) (by decide) ?_
                refine j_aload_n C 0 dX3_of_129 rfl ?_
                refine j_get C kf_1 (7 + (x0.toNatClampNeg)) (pl_mv (jk_lt hv2)) 7 (by decide) lk_3_134 rfl dX3_of_130 ?_
                exact B.2.2 _ _ _ _ dX3_of_133 rfl (congrArg (fun x => (x, u)) hE)
              · have hE := (if_neg t5).symm.trans hE
                by_cases t6 : x1 = (6 : Int32)
                · have hE := (if_pos t6).symm.trans hE
                  refine j_tableIn C 134 dX3_of_17 (by rw [t6]; decide) (by rw [t6]; decide) (by rw [t6]; rfl) (by decide) ?_
                  refine j_aload_n C 0 dX3_of_134 rfl ?_
                  refine j_get C kf_1 (7 + (x0.toNatClampNeg)) (pl_mv (jk_lt hv2)) 2 (by decide) lk_3_70 rfl dX3_of_135 ?_
                  refine j_cIS C B.2.1 (c_number l D z a u (u 11 (x0.toNatClampNeg))) gv_3_124 dd_number ⟨⟨rfl, rfl⟩, Nat.le_of_ble_eq_true rfl, Nat.le_of_ble_eq_true rfl⟩ rfl rfl (Nat.le_of_ble_eq_true rfl) dX3_of_138 ?_
                  exact B.2.2 _ _ _ _ dX3_of_141 rfl (congrArg (fun x => (x, u)) hE)
                · have hE := (if_neg t6).symm.trans hE
                  by_cases t7 : x1 = (7 : Int32)
                  · have hE := (if_pos t7).symm.trans hE
                    refine j_tableIn C 142 dX3_of_17 (by rw [t7]; decide) (by rw [t7]; decide) (by rw [t7]; rfl) (by decide) ?_
                    refine j_aload_n C 0 dX3_of_142 rfl ?_
                    refine j_get C kf_1 (7 + (x0.toNatClampNeg)) (pl_mv (jk_lt hv2)) 4 (by decide) lk_3_83 rfl dX3_of_143 ?_
                    refine j_cIS C B.2.1 (c_number l D z a u (u 13 (x0.toNatClampNeg))) gv_3_124 dd_number ⟨⟨rfl, rfl⟩, Nat.le_of_ble_eq_true rfl, Nat.le_of_ble_eq_true rfl⟩ rfl rfl (Nat.le_of_ble_eq_true rfl) dX3_of_146 ?_
                    exact B.2.2 _ _ _ _ dX3_of_149 rfl (congrArg (fun x => (x, u)) hE)
                  · have hE := (if_neg t7).symm.trans hE
                    by_cases t8 : x1 = (8 : Int32)
                    · have hE := (if_pos t8).symm.trans hE
                      refine j_tableIn C 150 dX3_of_17 (by rw [t8]; decide) (by rw [t8]; decide) (by rw [t8]; rfl) (by decide) ?_
                      refine j_aload_n C 0 dX3_of_150 rfl ?_
                      refine j_get C kf_1 (7 + (x0.toNatClampNeg)) (pl_mv (jk_lt hv2)) 3 (by decide) lk_3_80 rfl dX3_of_151 ?_
                      refine j_cIS C B.2.1 (c_number l D z a u (u 12 (x0.toNatClampNeg))) gv_3_124 dd_number ⟨⟨rfl, rfl⟩, Nat.le_of_ble_eq_true rfl, Nat.le_of_ble_eq_true rfl⟩ rfl rfl (Nat.le_of_ble_eq_true rfl) dX3_of_154 ?_
                      exact B.2.2 _ _ _ _ dX3_of_157 rfl (congrArg (fun x => (x, u)) hE)
                    · have hE := (if_neg t8).symm.trans hE
                      refine j_tableOut C 158 dX3_of_17 (jk_out8 t0 t1 t2 t3 t4 t5 t6 t7 t8) (by decide) ?_
                      refine j_iconst C (-1) dX3_of_158 ic_m1 ?_
                      exact B.2.2 _ _ _ _ dX3_of_159 rfl (congrArg (fun x => (x, u)) hE)
  · have hE := (if_pos c1).symm.trans hE
    refine j_iconst C (-1) dX3_of_7 ic_m1 ?_
    exact B.2.2 _ _ _ _ dX3_of_8 rfl (congrArg (fun x => (x, u)) hE)
theorem c_of (l : Launch) (D : va_G) (z : Nat → ClassId) (a : Nat → Nat) (u : St) (x0 : Int32) (x1 : Int32) (hG : g_of u x0 x1) : CtI l yX3_of (.code yX3_of cX3_of 4 (some .int) :: TT) rm_of D clA (tyl z) (cW z a) [.ref (a 0), .int x0, .int x1] u (f_of u x0 x1) u :=
  jk_metI (own := RX3) (by decide) rfl (Nat.le_of_ble_eq_true rfl) (fun _ _ _ _ _ _ _ _ _ _ _ B => w_of_0 B x0 x1 rfl hG)
def rm_ring : Room := { frames := 3, cells := 0, slots := 0, locals := 63 }
def f_ring (u : St) (x0 : Int32) (x1 : Int32) : Int32 := (if (f_isRing x0) = (0 : Int32) then (-1 : Int32) else (if x1 = (0 : Int32) then (u 30 (x0.toNatClampNeg)) else (if x1 = (1 : Int32) then (u 31 (x0.toNatClampNeg)) else (if x1 = (2 : Int32) then (u 32 (x0.toNatClampNeg)) else (if x1 = (3 : Int32) then (u 33 (x0.toNatClampNeg)) else (if x1 = (4 : Int32) then (u 34 (x0.toNatClampNeg)) else (if x1 = (5 : Int32) then (f_number (f_mayEnd u (x0.toNatClampNeg))) else (if x1 = (6 : Int32) then (u 35 (x0.toNatClampNeg)) else (-1 : Int32)))))))))
def g_ring (u : St) (x0 : Int32) (x1 : Int32) : Prop := (((f_isRing x0) = (0 : Int32) → True) ∧ (¬ (f_isRing x0) = (0 : Int32) → ((vp_in x0 2) ∧ ((x1 = (0 : Int32) → True) ∧ (¬ x1 = (0 : Int32) → ((x1 = (1 : Int32) → True) ∧ (¬ x1 = (1 : Int32) → ((x1 = (2 : Int32) → True) ∧ (¬ x1 = (2 : Int32) → ((x1 = (3 : Int32) → True) ∧ (¬ x1 = (3 : Int32) → ((x1 = (4 : Int32) → True) ∧ (¬ x1 = (4 : Int32) → ((x1 = (5 : Int32) → (g_mayEnd u (x0.toNatClampNeg))) ∧ (¬ x1 = (5 : Int32) → True)))))))))))))))
set_option maxRecDepth 20000 in
set_option maxHeartbeats 1000000 in
theorem w_ring_0 {Fr : Int32} {u : St} (B : jk_BI p l e R s m args below meth c cX3_ring 4 RX3 TT .int D clA (tyl z) (cW z a) A Q rm_ring (Fr, u)) (x0 : Int32) (x1 : Int32) (hE : f_ring u x0 x1 = Fr) (hG : g_ring u x0 x1) : JJ p l e R s m args below meth c 0 0 4 D clA (cW z a) A Q 0 [(0, .ref (a 0)), (1, .int x0), (2, .int x1)] u [] := by
  have C := B.1
  unfold f_ring at hE
  unfold g_ring at hG
  refine j_iload_n C 1 dX3_ring_0 rfl ?_
  refine j_cIS C B.2.1 (c_isRing l D z a u x0) gv_3_53 dd_isRing ⟨⟨rfl, rfl⟩, Nat.le_of_ble_eq_true rfl, Nat.le_of_ble_eq_true rfl⟩ rfl rfl (Nat.le_of_ble_eq_true rfl) dX3_ring_1 ?_
  refine j_if_ne C 9 dX3_ring_4 (by decide) (fun c1 => ?_) (fun c1 => ?_)
  · have hE := (if_neg c1).symm.trans hE
    have hG := hG.2 c1
    refine j_aload_n C 0 dX3_ring_9 rfl ?_
    refine j_get C kf_3 0 pl_desk 1 (by decide) lk_3_18 rfl dX3_ring_10 ?_
    refine j_iload_n C 1 dX3_ring_13 rfl ?_
    obtain ⟨hv2, hG⟩ := hG
    have lhv2 := jk_lt hv2
    refine j_aald C 2 3 pl_rgs rfl (x0.toNatClampNeg) (jk_self hv2 (by decide)) (jk_lt hv2) (by decide) rfl dX3_ring_14 ?_
    refine j_astore_n C dX3_ring_15 (by decide) rfl ?_
    refine j_iload_n C 3 dX3_ring_16 rfl ?_
    by_cases t0 : x1 = (0 : Int32)
    · have hE := (if_pos t0).symm.trans hE
      refine j_tableIn C 60 dX3_ring_17 (by rw [t0]; decide) (by rw [t0]; decide) (by rw [t0]; rfl) (by decide) ?_
      refine j_aload_n C 0 dX3_ring_60 rfl ?_
      refine j_get C kf_2 (23 + (x0.toNatClampNeg)) (pl_rg (jk_lt hv2)) 2 (by decide) lk_3_137 rfl dX3_ring_61 ?_
      exact B.2.2 _ _ _ _ dX3_ring_64 rfl (congrArg (fun x => (x, u)) hE)
    · have hE := (if_neg t0).symm.trans hE
      have hG := hG.2 t0
      by_cases t1 : x1 = (1 : Int32)
      · have hE := (if_pos t1).symm.trans hE
        refine j_tableIn C 65 dX3_ring_17 (by rw [t1]; decide) (by rw [t1]; decide) (by rw [t1]; rfl) (by decide) ?_
        refine j_aload_n C 0 dX3_ring_65 rfl ?_
        refine j_get C kf_2 (23 + (x0.toNatClampNeg)) (pl_rg (jk_lt hv2)) 3 (by decide) lk_3_140 rfl dX3_ring_66 ?_
        exact B.2.2 _ _ _ _ dX3_ring_69 rfl (congrArg (fun x => (x, u)) hE)
      · have hE := (if_neg t1).symm.trans hE
        have hG := hG.2 t1
        by_cases t2 : x1 = (2 : Int32)
        · have hE := (if_pos t2).symm.trans hE
          refine j_tableIn C 70 dX3_ring_17 (by rw [t2]; decide) (by rw [t2]; decide) (by rw [t2]; rfl) (by decide) ?_
          refine j_aload_n C 0 dX3_ring_70 rfl ?_
          refine j_get C kf_2 (23 + (x0.toNatClampNeg)) (pl_rg (jk_lt hv2)) 4 (by decide) lk_3_143 rfl dX3_ring_71 ?_
          exact B.2.2 _ _ _ _ dX3_ring_74 rfl (congrArg (fun x => (x, u)) hE)
        · have hE := (if_neg t2).symm.trans hE
          have hG := hG.2 t2
          by_cases t3 : x1 = (3 : Int32)
          · have hE := (if_pos t3).symm.trans hE
            refine j_tableIn C 75 dX3_ring_17 (by rw [t3]; decide) (by rw [t3]; decide) (by rw [t3]; rfl) (by decide) ?_
            refine j_aload_n C 0 dX3_ring_75 rfl ?_
            refine j_get C kf_2 (23 + (x0.toNatClampNeg)) (pl_rg (jk_lt hv2)) 5 (by decide) lk_3_146 rfl dX3_ring_76 ?_
            exact B.2.2 _ _ _ _ dX3_ring_79 rfl (congrArg (fun x => (x, u)) hE)
          · have hE := (if_neg t3).symm.trans hE
            have hG := hG.2 t3
            by_cases t4 : x1 = (4 : Int32)
            · have hE := (if_pos t4).symm.trans hE
              refine j_tableIn C 80 dX3_ring_17 (by rw [t4]; decide) (by rw [t4]; decide) (by rw [t4]; rfl) (by decide) ?_
              refine j_aload_n C 0 dX3_ring_80 rfl ?_
              refine j_get C kf_2 (23 + (x0.toNatClampNeg)) (pl_rg (jk_lt hv2)) 6 (by decide) lk_3_149 rfl dX3_ring_81 ?_
              exact B.2.2 _ _ _ _ dX3_ring_84 rfl (congrArg (fun x => (x, u)) hE)
            · have hE := (if_neg t4).symm.trans hE
              have hG := hG.2 t4
              by_cases t5 : x1 = (5 : Int32)
              · have hE := (if_pos t5).symm.trans hE
                have hG := hG.1 t5
                refine j_tableIn C 85 dX3_ring_17 (by rw [t5]; decide) (by rw [t5]; decide) (by rw [t5]; rfl) (by decide) ?_
                refine j_aload_n C 1 dX3_ring_85 rfl ?_
                refine j_aload_n C 0 dX3_ring_86 rfl ?_
                have hg3 := hG
                refine j_cIV C B.2.1 (c_mayEnd l D z a u (x0.toNatClampNeg) (jk_lt hv2) hg3) gv_3_152 dd_mayEnd ⟨⟨rfl, rfl⟩, Nat.le_of_ble_eq_true rfl, Nat.le_of_ble_eq_true rfl⟩ 0 3 pl_desk rfl rfl rfl rfl (Nat.le_of_ble_eq_true rfl) dX3_ring_87 ?_
                refine j_cIS C B.2.1 (c_number l D z a u (f_mayEnd u (x0.toNatClampNeg))) gv_3_124 dd_number ⟨⟨rfl, rfl⟩, Nat.le_of_ble_eq_true rfl, Nat.le_of_ble_eq_true rfl⟩ rfl rfl (Nat.le_of_ble_eq_true rfl) dX3_ring_90 ?_
                exact B.2.2 _ _ _ _ dX3_ring_93 rfl (congrArg (fun x => (x, u)) hE)
              · have hE := (if_neg t5).symm.trans hE
                by_cases t6 : x1 = (6 : Int32)
                · have hE := (if_pos t6).symm.trans hE
                  refine j_tableIn C 94 dX3_ring_17 (by rw [t6]; decide) (by rw [t6]; decide) (by rw [t6]; rfl) (by decide) ?_
                  refine j_aload_n C 0 dX3_ring_94 rfl ?_
                  refine j_get C kf_2 (23 + (x0.toNatClampNeg)) (pl_rg (jk_lt hv2)) 7 (by decide) lk_3_100 rfl dX3_ring_95 ?_
                  exact B.2.2 _ _ _ _ dX3_ring_98 rfl (congrArg (fun x => (x, u)) hE)
                · have hE := (if_neg t6).symm.trans hE
                  refine j_tableOut C 99 dX3_ring_17 (jk_out6 t0 t1 t2 t3 t4 t5 t6) (by decide) ?_
                  refine j_iconst C (-1) dX3_ring_99 ic_m1 ?_
                  exact B.2.2 _ _ _ _ dX3_ring_100 rfl (congrArg (fun x => (x, u)) hE)
  · have hE := (if_pos c1).symm.trans hE
    refine j_iconst C (-1) dX3_ring_7 ic_m1 ?_
    exact B.2.2 _ _ _ _ dX3_ring_8 rfl (congrArg (fun x => (x, u)) hE)
theorem c_ring (l : Launch) (D : va_G) (z : Nat → ClassId) (a : Nat → Nat) (u : St) (x0 : Int32) (x1 : Int32) (hG : g_ring u x0 x1) : CtI l yX3_ring (.code yX3_ring cX3_ring 4 (some .int) :: TT) rm_ring D clA (tyl z) (cW z a) [.ref (a 0), .int x0, .int x1] u (f_ring u x0 x1) u :=
  jk_metI (own := RX3) (by decide) rfl (Nat.le_of_ble_eq_true rfl) (fun _ _ _ _ _ _ _ _ _ _ _ B => w_ring_0 B x0 x1 rfl hG)
def rm_state : Room := { frames := 1, cells := 0, slots := 0, locals := 20 }
def f_state (u : St) (x0 : Int32) : Int32 := (if x0 = (0 : Int32) then (u 0 0) else (if x0 = (1 : Int32) then (u 0 1) else (if x0 = (2 : Int32) then (f_number (u 0 2)) else (if x0 = (3 : Int32) then (u 1 0) else (if x0 = (4 : Int32) then (u 0 3) else (-1 : Int32))))))
set_option maxRecDepth 20000 in
set_option maxHeartbeats 1000000 in
theorem w_state_0 {Fr : Int32} {u : St} (B : jk_BI p l e R s m args below meth c cX3_state 2 RX3 TT .int D clA (tyl z) (cW z a) A Q rm_state (Fr, u)) (x0 : Int32) (hE : f_state u x0 = Fr) : JJ p l e R s m args below meth c 0 0 2 D clA (cW z a) A Q 0 [(0, .ref (a 0)), (1, .int x0)] u [] := by
  have C := B.1
  unfold f_state at hE
  refine j_iload_n C 1 dX3_state_0 rfl ?_
  by_cases t0 : x0 = (0 : Int32)
  · have hE := (if_pos t0).symm.trans hE
    refine j_tableIn C 36 dX3_state_1 (by rw [t0]; decide) (by rw [t0]; decide) (by rw [t0]; rfl) (by decide) ?_
    refine j_aload_n C 0 dX3_state_36 rfl ?_
    refine j_get C kf_3 0 pl_desk 4 (by decide) lk_3_156 rfl dX3_state_37 ?_
    exact B.2.2 _ _ _ _ dX3_state_40 rfl (congrArg (fun x => (x, u)) hE)
  · have hE := (if_neg t0).symm.trans hE
    by_cases t1 : x0 = (1 : Int32)
    · have hE := (if_pos t1).symm.trans hE
      refine j_tableIn C 41 dX3_state_1 (by rw [t1]; decide) (by rw [t1]; decide) (by rw [t1]; rfl) (by decide) ?_
      refine j_aload_n C 0 dX3_state_41 rfl ?_
      refine j_get C kf_3 0 pl_desk 5 (by decide) lk_3_106 rfl dX3_state_42 ?_
      exact B.2.2 _ _ _ _ dX3_state_45 rfl (congrArg (fun x => (x, u)) hE)
    · have hE := (if_neg t1).symm.trans hE
      by_cases t2 : x0 = (2 : Int32)
      · have hE := (if_pos t2).symm.trans hE
        refine j_tableIn C 46 dX3_state_1 (by rw [t2]; decide) (by rw [t2]; decide) (by rw [t2]; rfl) (by decide) ?_
        refine j_aload_n C 0 dX3_state_46 rfl ?_
        refine j_get C kf_3 0 pl_desk 6 (by decide) lk_3_103 rfl dX3_state_47 ?_
        refine j_cIS C B.2.1 (c_number l D z a u (u 0 2)) gv_3_124 dd_number ⟨⟨rfl, rfl⟩, Nat.le_of_ble_eq_true rfl, Nat.le_of_ble_eq_true rfl⟩ rfl rfl (Nat.le_of_ble_eq_true rfl) dX3_state_50 ?_
        exact B.2.2 _ _ _ _ dX3_state_53 rfl (congrArg (fun x => (x, u)) hE)
      · have hE := (if_neg t2).symm.trans hE
        by_cases t3 : x0 = (3 : Int32)
        · have hE := (if_pos t3).symm.trans hE
          refine j_tableIn C 54 dX3_state_1 (by rw [t3]; decide) (by rw [t3]; decide) (by rw [t3]; rfl) (by decide) ?_
          refine j_aload_n C 0 dX3_state_54 rfl ?_
          refine j_get C kf_3 0 pl_desk 2 (by decide) lk_3_28 rfl dX3_state_55 ?_
          refine j_get C kf_0 3 pl_guard 3 (by decide) lk_3_159 rfl dX3_state_58 ?_
          exact B.2.2 _ _ _ _ dX3_state_61 rfl (congrArg (fun x => (x, u)) hE)
        · have hE := (if_neg t3).symm.trans hE
          by_cases t4 : x0 = (4 : Int32)
          · have hE := (if_pos t4).symm.trans hE
            refine j_tableIn C 62 dX3_state_1 (by rw [t4]; decide) (by rw [t4]; decide) (by rw [t4]; rfl) (by decide) ?_
            refine j_aload_n C 0 dX3_state_62 rfl ?_
            refine j_get C kf_3 0 pl_desk 7 (by decide) lk_3_162 rfl dX3_state_63 ?_
            exact B.2.2 _ _ _ _ dX3_state_66 rfl (congrArg (fun x => (x, u)) hE)
          · have hE := (if_neg t4).symm.trans hE
            refine j_tableOut C 67 dX3_state_1 (jk_out4 t0 t1 t2 t3 t4) (by decide) ?_
            refine j_iconst C (-1) dX3_state_67 ic_m1 ?_
            exact B.2.2 _ _ _ _ dX3_state_68 rfl (congrArg (fun x => (x, u)) hE)
theorem c_state (l : Launch) (D : va_G) (z : Nat → ClassId) (a : Nat → Nat) (u : St) (x0 : Int32) : CtI l yX3_state (.code yX3_state cX3_state 2 (some .int) :: TT) rm_state D clA (tyl z) (cW z a) [.ref (a 0), .int x0] u (f_state u x0) u :=
  jk_metI (own := RX3) (by decide) rfl (Nat.le_of_ble_eq_true rfl) (fun _ _ _ _ _ _ _ _ _ _ _ B => w_state_0 B x0 rfl)
def rm_check : Room := { frames := 3, cells := 0, slots := 0, locals := 63 }
def f_check_2  : Nat → Nat → St → Int32 × St
  | 0, i, u => (if (f_anyInTheWay u) = (0 : Int32) then ((f_number (1 : Int32)), u) else ((f_number (0 : Int32)), u))
  | n + 1, i, u => (f_check_2 n (i + 1) (up2 u 2 i (f_toldLight u i)))
set_option maxRecDepth 20000 in
set_option maxHeartbeats 1000000 in
theorem w_check_2 {F : Int32 × St} (B : jk_BI p l e R s m args below meth c cX3_check 2 RX3 TT .int D clA (tyl z) (cW z a) A Q rm_check F)  : ∀ (n i : Nat) (u : St), i + n = 8 → f_check_2 n i u = F → JJ p l e R s m args below meth c 0 0 2 D clA (cW z a) A Q 2 [(1, .int (nI i)), (0, .ref (a 0))] u [] := by
  have C := B.1
  intro n
  induction n with
  | zero =>
    intro i u hin hE
    obtain rfl : i = 8 := by omega
    have hge : (8 : Int32) ≤ nI 8 := by decide
    refine j_iload_n C 0 dX3_check_2 rfl ?_
    refine j_bipush C 8 dX3_check_3 bp_8 ?_
    refine j_icmp_ge C 25 dX3_check_5 (by decide) (fun _ => ?_) (fun hq => absurd hge hq)
    refine j_aload_n C 1 dX3_check_25 rfl ?_
    refine j_get C kf_3 0 pl_desk 3 (by decide) lk_3_32 rfl dX3_check_26 ?_
    refine j_cIS C B.2.1 (c_anyInTheWay l D z a u) gv_3_168 dd_anyInTheWay ⟨⟨rfl, rfl⟩, Nat.le_of_ble_eq_true rfl, Nat.le_of_ble_eq_true rfl⟩ rfl rfl (Nat.le_of_ble_eq_true rfl) dX3_check_29 ?_
    refine j_if_ne C 39 dX3_check_32 (by decide) (fun c1 => ?_) (fun c1 => ?_)
    · have hE := (if_neg c1).symm.trans hE
      refine j_iconst C 0 dX3_check_39 ic_0 ?_
      refine j_cIS C B.2.1 (c_number l D z a u (0 : Int32)) gv_3_124 dd_number ⟨⟨rfl, rfl⟩, Nat.le_of_ble_eq_true rfl, Nat.le_of_ble_eq_true rfl⟩ rfl rfl (Nat.le_of_ble_eq_true rfl) dX3_check_40 ?_
      exact B.2.2 _ _ _ _ dX3_check_43 rfl hE
    · have hE := (if_pos c1).symm.trans hE
      refine j_iconst C 1 dX3_check_35 ic_1 ?_
      refine j_goto C 40 dX3_check_36 (by decide) ?_
      refine j_cIS C B.2.1 (c_number l D z a u (1 : Int32)) gv_3_124 dd_number ⟨⟨rfl, rfl⟩, Nat.le_of_ble_eq_true rfl, Nat.le_of_ble_eq_true rfl⟩ rfl rfl (Nat.le_of_ble_eq_true rfl) dX3_check_40 ?_
      exact B.2.2 _ _ _ _ dX3_check_43 rfl hE
  | succ n ih =>
    intro i u hin hE
    have hlt : i < 8 := by omega
    have hnge : ¬ (8 : Int32) ≤ nI i := lt8 i hlt
    refine j_iload_n C 0 dX3_check_2 rfl ?_
    refine j_bipush C 8 dX3_check_3 bp_8 ?_
    refine j_icmp_ge C 25 dX3_check_5 (by decide) (fun hq => absurd hq hnge) (fun _ => ?_)
    refine j_aload_n C 1 dX3_check_8 rfl ?_
    refine j_get C kf_3 0 pl_desk 3 (by decide) lk_3_32 rfl dX3_check_9 ?_
    refine j_iload_n C 0 dX3_check_12 rfl ?_
    refine j_aload_n C 1 dX3_check_13 rfl ?_
    refine j_iload_n C 0 dX3_check_14 rfl ?_
    refine j_cIV C B.2.1 (c_toldLight l D z a u i hlt) gv_3_165 dd_toldLight ⟨⟨rfl, rfl⟩, Nat.le_of_ble_eq_true rfl, Nat.le_of_ble_eq_true rfl⟩ 0 3 pl_desk rfl rfl rfl rfl (Nat.le_of_ble_eq_true rfl) dX3_check_15 ?_
    refine j_iast C 4 0 pl_lights rfl i rfl hlt (by decide) pu_lights dX3_check_18 ?_
    refine j_iinc C 0 (nI (i + 1)) dX3_check_19 rfl (nI_1 _) (by decide) rfl ?_
    refine j_goto C 2 dX3_check_22 (by decide) ?_
    exact ih (i + 1) (up2 u 2 i (f_toldLight u i)) (by omega) hE
def f_check (u : St)  : Int32 × St := (f_check_2 8 0 u)
set_option maxRecDepth 20000 in
set_option maxHeartbeats 1000000 in
theorem w_check_0 {F : Int32 × St} {u : St} (B : jk_BI p l e R s m args below meth c cX3_check 2 RX3 TT .int D clA (tyl z) (cW z a) A Q rm_check F)  (hE : f_check u = F) : JJ p l e R s m args below meth c 0 0 2 D clA (cW z a) A Q 0 [(0, .ref (a 0))] u [] := by
  have C := B.1
  unfold f_check at hE
  refine j_iconst C 0 dX3_check_0 ic_0 ?_
  refine j_istore_n C dX3_check_1 (by decide) rfl ?_
  refine j_lq (congrArg (fun x => ([(1, .int x), (0, .ref (a 0))] : List (Nat × Value))) ix_0) ?_
  exact w_check_2 B 8 0 u (by omega) hE
theorem c_check (l : Launch) (D : va_G) (z : Nat → ClassId) (a : Nat → Nat) (u : St)  : CtI l yX3_check (.code yX3_check cX3_check 2 (some .int) :: TT) rm_check D clA (tyl z) (cW z a) [.ref (a 0)] u (f_check u).1 (f_check u).2 :=
  jk_metI (own := RX3) (by decide) rfl (Nat.le_of_ble_eq_true rfl) (fun _ _ _ _ _ _ _ _ _ _ _ B => w_check_0 B rfl)
end WLK
end
