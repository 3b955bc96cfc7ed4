section
-- ===== PART A: goes FIRST, ahead of the names: the tables' words, and 'selects' of the private methods out of them =====
/-- a private method of a class that the tables say can be made, by its rows of tables_1 -/
def lw_okq (q : MethodName × Nat) : Prop := (q.1.cls ≠ "java/lang/invoke/MethodHandle" ∧ q.1.cls ≠ "java/lang/invoke/VarHandle") ∧ Cond.instantiable q.1.cls q.2 ∈ tables_1 ∧ Cond.privateMethod q.1 ∈ tables_1 ∧ Cond.instanceMethod q.1 ∈ tables_1
theorem lw_p0 : lw_okq (⟨"RippleCounts$History", "spareRow", "()I"⟩, 3) := ⟨⟨by decide +kernel, by decide +kernel⟩, List.mem_of_getElem? (i := 148) (by decide +kernel), List.mem_of_getElem? (i := 211) (by decide +kernel), List.mem_of_getElem? (i := 212) (by decide +kernel)⟩
theorem lw_p1 : lw_okq (⟨"RippleCounts$Counter", "changeStages", "(I)I"⟩, 8) := ⟨⟨by decide +kernel, by decide +kernel⟩, List.mem_of_getElem? (i := 21) (by decide +kernel), List.mem_of_getElem? (i := 240) (by decide +kernel), List.mem_of_getElem? (i := 241) (by decide +kernel)⟩
theorem lw_p2 : lw_okq (⟨"RippleCounts$Counter", "changeHold", "(I)I"⟩, 8) := ⟨⟨by decide +kernel, by decide +kernel⟩, List.mem_of_getElem? (i := 21) (by decide +kernel), List.mem_of_getElem? (i := 257) (by decide +kernel), List.mem_of_getElem? (i := 258) (by decide +kernel)⟩
theorem lw_p3 : lw_okq (⟨"RippleCounts$Counter", "nanosecond", "()I"⟩, 8) := ⟨⟨by decide +kernel, by decide +kernel⟩, List.mem_of_getElem? (i := 21) (by decide +kernel), List.mem_of_getElem? (i := 297) (by decide +kernel), List.mem_of_getElem? (i := 298) (by decide +kernel)⟩
theorem lw_p4 : lw_okq (⟨"RippleCounts$Wave", "turnOver", "(II)I"⟩, 7) := ⟨⟨by decide +kernel, by decide +kernel⟩, List.mem_of_getElem? (i := 27) (by decide +kernel), List.mem_of_getElem? (i := 305) (by decide +kernel), List.mem_of_getElem? (i := 306) (by decide +kernel)⟩
theorem lw_p5 : lw_okq (⟨"RippleCounts$Counter", "isStill", "()Z"⟩, 8) := ⟨⟨by decide +kernel, by decide +kernel⟩, List.mem_of_getElem? (i := 21) (by decide +kernel), List.mem_of_getElem? (i := 314) (by decide +kernel), List.mem_of_getElem? (i := 315) (by decide +kernel)⟩
theorem lw_p6 : lw_okq (⟨"RippleCounts$Readings", "isTrue", "(I)Z"⟩, 5) := ⟨⟨by decide +kernel, by decide +kernel⟩, List.mem_of_getElem? (i := 70) (by decide +kernel), List.mem_of_getElem? (i := 363) (by decide +kernel), List.mem_of_getElem? (i := 364) (by decide +kernel)⟩
theorem lw_p7 : lw_okq (⟨"RippleCounts$Wave", "readsTrue", "(II)Z"⟩, 7) := ⟨⟨by decide +kernel, by decide +kernel⟩, List.mem_of_getElem? (i := 27) (by decide +kernel), List.mem_of_getElem? (i := 420) (by decide +kernel), List.mem_of_getElem? (i := 421) (by decide +kernel)⟩
theorem lw_p8 : lw_okq (⟨"RippleCounts", "carryAll", "()I"⟩, 6) := ⟨⟨by decide +kernel, by decide +kernel⟩, List.mem_of_getElem? (i := 13) (by decide +kernel), List.mem_of_getElem? (i := 495) (by decide +kernel), List.mem_of_getElem? (i := 496) (by decide +kernel)⟩
theorem lw_p9 : lw_okq (⟨"RippleCounts", "carryOne", "(I)I"⟩, 6) := ⟨⟨by decide +kernel, by decide +kernel⟩, List.mem_of_getElem? (i := 13) (by decide +kernel), List.mem_of_getElem? (i := 519) (by decide +kernel), List.mem_of_getElem? (i := 520) (by decide +kernel)⟩
theorem lw_p10 : lw_okq (⟨"RippleCountsModel", "begins", "(I)V"⟩, 7) := ⟨⟨by decide +kernel, by decide +kernel⟩, List.mem_of_getElem? (i := 549) (by decide +kernel), List.mem_of_getElem? (i := 555) (by decide +kernel), List.mem_of_getElem? (i := 556) (by decide +kernel)⟩
theorem lw_p11 : lw_okq (⟨"RippleCountsModel", "remembers", "()V"⟩, 7) := ⟨⟨by decide +kernel, by decide +kernel⟩, List.mem_of_getElem? (i := 549) (by decide +kernel), List.mem_of_getElem? (i := 588) (by decide +kernel), List.mem_of_getElem? (i := 589) (by decide +kernel)⟩
theorem lw_p12 : lw_okq (⟨"RippleCountsModel", "whyNotDelay", "(II)I"⟩, 7) := ⟨⟨by decide +kernel, by decide +kernel⟩, List.mem_of_getElem? (i := 549) (by decide +kernel), List.mem_of_getElem? (i := 596) (by decide +kernel), List.mem_of_getElem? (i := 597) (by decide +kernel)⟩
theorem lw_p13 : lw_okq (⟨"RippleCountsModel", "stages", "(I)I"⟩, 7) := ⟨⟨by decide +kernel, by decide +kernel⟩, List.mem_of_getElem? (i := 549) (by decide +kernel), List.mem_of_getElem? (i := 600) (by decide +kernel), List.mem_of_getElem? (i := 601) (by decide +kernel)⟩
theorem lw_p14 : lw_okq (⟨"RippleCountsModel", "clockNow", "()I"⟩, 7) := ⟨⟨by decide +kernel, by decide +kernel⟩, List.mem_of_getElem? (i := 549) (by decide +kernel), List.mem_of_getElem? (i := 608) (by decide +kernel), List.mem_of_getElem? (i := 609) (by decide +kernel)⟩
theorem lw_p15 : lw_okq (⟨"RippleCountsModel", "clocks", "(I)V"⟩, 7) := ⟨⟨by decide +kernel, by decide +kernel⟩, List.mem_of_getElem? (i := 549) (by decide +kernel), List.mem_of_getElem? (i := 612) (by decide +kernel), List.mem_of_getElem? (i := 613) (by decide +kernel)⟩
def lw_privs_1 : List (MethodName × Nat) := [(⟨"RippleCounts$History", "spareRow", "()I"⟩, 3), (⟨"RippleCounts$Counter", "changeStages", "(I)I"⟩, 8), (⟨"RippleCounts$Counter", "changeHold", "(I)I"⟩, 8), (⟨"RippleCounts$Counter", "nanosecond", "()I"⟩, 8), (⟨"RippleCounts$Wave", "turnOver", "(II)I"⟩, 7), (⟨"RippleCounts$Counter", "isStill", "()Z"⟩, 8), (⟨"RippleCounts$Readings", "isTrue", "(I)Z"⟩, 5), (⟨"RippleCounts$Wave", "readsTrue", "(II)Z"⟩, 7), (⟨"RippleCounts", "carryAll", "()I"⟩, 6), (⟨"RippleCounts", "carryOne", "(I)I"⟩, 6), (⟨"RippleCountsModel", "begins", "(I)V"⟩, 7), (⟨"RippleCountsModel", "remembers", "()V"⟩, 7), (⟨"RippleCountsModel", "whyNotDelay", "(II)I"⟩, 7), (⟨"RippleCountsModel", "stages", "(I)I"⟩, 7), (⟨"RippleCountsModel", "clockNow", "()I"⟩, 7), (⟨"RippleCountsModel", "clocks", "(I)V"⟩, 7)]
theorem lw_r1 : ∀ q ∈ lw_privs_1, lw_okq q := List.forall_mem_cons.mpr ⟨lw_p0, List.forall_mem_cons.mpr ⟨lw_p1, List.forall_mem_cons.mpr ⟨lw_p2, List.forall_mem_cons.mpr ⟨lw_p3, List.forall_mem_cons.mpr ⟨lw_p4, List.forall_mem_cons.mpr ⟨lw_p5, List.forall_mem_cons.mpr ⟨lw_p6, List.forall_mem_cons.mpr ⟨lw_p7, List.forall_mem_cons.mpr ⟨lw_p8, List.forall_mem_cons.mpr ⟨lw_p9, List.forall_mem_cons.mpr ⟨lw_p10, List.forall_mem_cons.mpr ⟨lw_p11, List.forall_mem_cons.mpr ⟨lw_p12, List.forall_mem_cons.mpr ⟨lw_p13, List.forall_mem_cons.mpr ⟨lw_p14, List.forall_mem_cons.mpr ⟨lw_p15, fun _ h => absurd h List.not_mem_nil⟩⟩⟩⟩⟩⟩⟩⟩⟩⟩⟩⟩⟩⟩⟩⟩
theorem lw_p16 : lw_okq (⟨"RippleCountsModel", "turns", "(II)V"⟩, 7) := ⟨⟨by decide +kernel, by decide +kernel⟩, List.mem_of_getElem? (i := 549) (by decide +kernel), List.mem_of_getElem? (i := 616) (by decide +kernel), List.mem_of_getElem? (i := 617) (by decide +kernel)⟩
theorem lw_p17 : lw_okq (⟨"RippleCountsModel", "whyNotPass", "(I)I"⟩, 7) := ⟨⟨by decide +kernel, by decide +kernel⟩, List.mem_of_getElem? (i := 549) (by decide +kernel), List.mem_of_getElem? (i := 627) (by decide +kernel), List.mem_of_getElem? (i := 628) (by decide +kernel)⟩
theorem lw_p18 : lw_okq (⟨"RippleCountsModel", "passes", "(II)I"⟩, 7) := ⟨⟨by decide +kernel, by decide +kernel⟩, List.mem_of_getElem? (i := 549) (by decide +kernel), List.mem_of_getElem? (i := 631) (by decide +kernel), List.mem_of_getElem? (i := 632) (by decide +kernel)⟩
theorem lw_p19 : lw_okq (⟨"RippleCountsModel", "passesOne", "(I)I"⟩, 7) := ⟨⟨by decide +kernel, by decide +kernel⟩, List.mem_of_getElem? (i := 549) (by decide +kernel), List.mem_of_getElem? (i := 635) (by decide +kernel), List.mem_of_getElem? (i := 636) (by decide +kernel)⟩
theorem lw_p20 : lw_okq (⟨"RippleCountsModel", "done", "(II)V"⟩, 7) := ⟨⟨by decide +kernel, by decide +kernel⟩, List.mem_of_getElem? (i := 549) (by decide +kernel), List.mem_of_getElem? (i := 639) (by decide +kernel), List.mem_of_getElem? (i := 640) (by decide +kernel)⟩
theorem lw_p21 : lw_okq (⟨"RippleCountsModel", "sees", "(I)V"⟩, 7) := ⟨⟨by decide +kernel, by decide +kernel⟩, List.mem_of_getElem? (i := 549) (by decide +kernel), List.mem_of_getElem? (i := 643) (by decide +kernel), List.mem_of_getElem? (i := 644) (by decide +kernel)⟩
theorem lw_p22 : lw_okq (⟨"RippleCountsModel", "shows", "(I)I"⟩, 7) := ⟨⟨by decide +kernel, by decide +kernel⟩, List.mem_of_getElem? (i := 549) (by decide +kernel), List.mem_of_getElem? (i := 647) (by decide +kernel), List.mem_of_getElem? (i := 648) (by decide +kernel)⟩
theorem lw_p23 : lw_okq (⟨"RippleCountsModel", "allOnWay", "(I)I"⟩, 7) := ⟨⟨by decide +kernel, by decide +kernel⟩, List.mem_of_getElem? (i := 549) (by decide +kernel), List.mem_of_getElem? (i := 651) (by decide +kernel), List.mem_of_getElem? (i := 652) (by decide +kernel)⟩
theorem lw_p24 : lw_okq (⟨"RippleCountsModel", "onWay", "(II)I"⟩, 7) := ⟨⟨by decide +kernel, by decide +kernel⟩, List.mem_of_getElem? (i := 549) (by decide +kernel), List.mem_of_getElem? (i := 655) (by decide +kernel), List.mem_of_getElem? (i := 656) (by decide +kernel)⟩
theorem lw_p25 : lw_okq (⟨"RippleCountsModel", "reads", "(II)V"⟩, 7) := ⟨⟨by decide +kernel, by decide +kernel⟩, List.mem_of_getElem? (i := 549) (by decide +kernel), List.mem_of_getElem? (i := 659) (by decide +kernel), List.mem_of_getElem? (i := 660) (by decide +kernel)⟩
theorem lw_p26 : lw_okq (⟨"RippleCountsModel", "whyNotRead", "()I"⟩, 7) := ⟨⟨by decide +kernel, by decide +kernel⟩, List.mem_of_getElem? (i := 549) (by decide +kernel), List.mem_of_getElem? (i := 667) (by decide +kernel), List.mem_of_getElem? (i := 668) (by decide +kernel)⟩
theorem lw_p27 : lw_okq (⟨"RippleCountsModel", "whyNotLatch", "()I"⟩, 7) := ⟨⟨by decide +kernel, by decide +kernel⟩, List.mem_of_getElem? (i := 549) (by decide +kernel), List.mem_of_getElem? (i := 675) (by decide +kernel), List.mem_of_getElem? (i := 676) (by decide +kernel)⟩
theorem lw_p28 : lw_okq (⟨"RippleCountsModel", "nextDue", "(I)I"⟩, 7) := ⟨⟨by decide +kernel, by decide +kernel⟩, List.mem_of_getElem? (i := 549) (by decide +kernel), List.mem_of_getElem? (i := 683) (by decide +kernel), List.mem_of_getElem? (i := 684) (by decide +kernel)⟩
theorem lw_p29 : lw_okq (⟨"RippleCountsModel", "ofReading", "(II)I"⟩, 7) := ⟨⟨by decide +kernel, by decide +kernel⟩, List.mem_of_getElem? (i := 549) (by decide +kernel), List.mem_of_getElem? (i := 691) (by decide +kernel), List.mem_of_getElem? (i := 692) (by decide +kernel)⟩
theorem lw_p30 : lw_okq (⟨"RippleCountsModel", "trueReadings", "()I"⟩, 7) := ⟨⟨by decide +kernel, by decide +kernel⟩, List.mem_of_getElem? (i := 549) (by decide +kernel), List.mem_of_getElem? (i := 703) (by decide +kernel), List.mem_of_getElem? (i := 704) (by decide +kernel)⟩
theorem lw_p31 : lw_okq (⟨"RippleCountsModel", "numbers", "(I)I"⟩, 7) := ⟨⟨by decide +kernel, by decide +kernel⟩, List.mem_of_getElem? (i := 549) (by decide +kernel), List.mem_of_getElem? (i := 707) (by decide +kernel), List.mem_of_getElem? (i := 708) (by decide +kernel)⟩
def lw_privs_2 : List (MethodName × Nat) := [(⟨"RippleCountsModel", "turns", "(II)V"⟩, 7), (⟨"RippleCountsModel", "whyNotPass", "(I)I"⟩, 7), (⟨"RippleCountsModel", "passes", "(II)I"⟩, 7), (⟨"RippleCountsModel", "passesOne", "(I)I"⟩, 7), (⟨"RippleCountsModel", "done", "(II)V"⟩, 7), (⟨"RippleCountsModel", "sees", "(I)V"⟩, 7), (⟨"RippleCountsModel", "shows", "(I)I"⟩, 7), (⟨"RippleCountsModel", "allOnWay", "(I)I"⟩, 7), (⟨"RippleCountsModel", "onWay", "(II)I"⟩, 7), (⟨"RippleCountsModel", "reads", "(II)V"⟩, 7), (⟨"RippleCountsModel", "whyNotRead", "()I"⟩, 7), (⟨"RippleCountsModel", "whyNotLatch", "()I"⟩, 7), (⟨"RippleCountsModel", "nextDue", "(I)I"⟩, 7), (⟨"RippleCountsModel", "ofReading", "(II)I"⟩, 7), (⟨"RippleCountsModel", "trueReadings", "()I"⟩, 7), (⟨"RippleCountsModel", "numbers", "(I)I"⟩, 7)]
theorem lw_r2 : ∀ q ∈ lw_privs_2, lw_okq q := List.forall_mem_cons.mpr ⟨lw_p16, List.forall_mem_cons.mpr ⟨lw_p17, List.forall_mem_cons.mpr ⟨lw_p18, List.forall_mem_cons.mpr ⟨lw_p19, List.forall_mem_cons.mpr ⟨lw_p20, List.forall_mem_cons.mpr ⟨lw_p21, List.forall_mem_cons.mpr ⟨lw_p22, List.forall_mem_cons.mpr ⟨lw_p23, List.forall_mem_cons.mpr ⟨lw_p24, List.forall_mem_cons.mpr ⟨lw_p25, List.forall_mem_cons.mpr ⟨lw_p26, List.forall_mem_cons.mpr ⟨lw_p27, List.forall_mem_cons.mpr ⟨lw_p28, List.forall_mem_cons.mpr ⟨lw_p29, List.forall_mem_cons.mpr ⟨lw_p30, List.forall_mem_cons.mpr ⟨lw_p31, fun _ h => absurd h List.not_mem_nil⟩⟩⟩⟩⟩⟩⟩⟩⟩⟩⟩⟩⟩⟩⟩⟩
theorem lw_p32 : lw_okq (⟨"RippleCountsModel", "copies", "()V"⟩, 7) := ⟨⟨by decide +kernel, by decide +kernel⟩, List.mem_of_getElem? (i := 549) (by decide +kernel), List.mem_of_getElem? (i := 715) (by decide +kernel), List.mem_of_getElem? (i := 716) (by decide +kernel)⟩
theorem lw_p33 : lw_okq (⟨"RippleCountsModel", "wrongWith", "(I)I"⟩, 7) := ⟨⟨by decide +kernel, by decide +kernel⟩, List.mem_of_getElem? (i := 549) (by decide +kernel), List.mem_of_getElem? (i := 727) (by decide +kernel), List.mem_of_getElem? (i := 728) (by decide +kernel)⟩
theorem lw_p34 : lw_okq (⟨"RippleCountsModel", "safe", "()I"⟩, 7) := ⟨⟨by decide +kernel, by decide +kernel⟩, List.mem_of_getElem? (i := 549) (by decide +kernel), List.mem_of_getElem? (i := 735) (by decide +kernel), List.mem_of_getElem? (i := 736) (by decide +kernel)⟩
theorem lw_p35 : lw_okq (⟨"RippleCountsModel", "orderEnd", "(I)I"⟩, 7) := ⟨⟨by decide +kernel, by decide +kernel⟩, List.mem_of_getElem? (i := 549) (by decide +kernel), List.mem_of_getElem? (i := 756) (by decide +kernel), List.mem_of_getElem? (i := 757) (by decide +kernel)⟩
theorem lw_p36 : lw_okq (⟨"RippleCountsModel", "sign", "(I)I"⟩, 7) := ⟨⟨by decide +kernel, by decide +kernel⟩, List.mem_of_getElem? (i := 549) (by decide +kernel), List.mem_of_getElem? (i := 760) (by decide +kernel), List.mem_of_getElem? (i := 761) (by decide +kernel)⟩
theorem lw_p37 : lw_okq (⟨"RippleCountsModel", "digit", "(I)I"⟩, 7) := ⟨⟨by decide +kernel, by decide +kernel⟩, List.mem_of_getElem? (i := 549) (by decide +kernel), List.mem_of_getElem? (i := 764) (by decide +kernel), List.mem_of_getElem? (i := 765) (by decide +kernel)⟩
theorem lw_p38 : lw_okq (⟨"RippleCountsModel", "numberEnd", "(I)I"⟩, 7) := ⟨⟨by decide +kernel, by decide +kernel⟩, List.mem_of_getElem? (i := 549) (by decide +kernel), List.mem_of_getElem? (i := 768) (by decide +kernel), List.mem_of_getElem? (i := 769) (by decide +kernel)⟩
theorem lw_p39 : lw_okq (⟨"RippleCountsModel", "numberAt", "(I)I"⟩, 7) := ⟨⟨by decide +kernel, by decide +kernel⟩, List.mem_of_getElem? (i := 549) (by decide +kernel), List.mem_of_getElem? (i := 777) (by decide +kernel), List.mem_of_getElem? (i := 778) (by decide +kernel)⟩
theorem lw_p40 : lw_okq (⟨"RippleCountsModel", "ticks", "()I"⟩, 7) := ⟨⟨by decide +kernel, by decide +kernel⟩, List.mem_of_getElem? (i := 549) (by decide +kernel), List.mem_of_getElem? (i := 781) (by decide +kernel), List.mem_of_getElem? (i := 782) (by decide +kernel)⟩
theorem lw_p41 : lw_okq (⟨"RippleCountsModel", "carries", "(I)I"⟩, 7) := ⟨⟨by decide +kernel, by decide +kernel⟩, List.mem_of_getElem? (i := 549) (by decide +kernel), List.mem_of_getElem? (i := 785) (by decide +kernel), List.mem_of_getElem? (i := 786) (by decide +kernel)⟩
def lw_privs_3 : List (MethodName × Nat) := [(⟨"RippleCountsModel", "copies", "()V"⟩, 7), (⟨"RippleCountsModel", "wrongWith", "(I)I"⟩, 7), (⟨"RippleCountsModel", "safe", "()I"⟩, 7), (⟨"RippleCountsModel", "orderEnd", "(I)I"⟩, 7), (⟨"RippleCountsModel", "sign", "(I)I"⟩, 7), (⟨"RippleCountsModel", "digit", "(I)I"⟩, 7), (⟨"RippleCountsModel", "numberEnd", "(I)I"⟩, 7), (⟨"RippleCountsModel", "numberAt", "(I)I"⟩, 7), (⟨"RippleCountsModel", "ticks", "()I"⟩, 7), (⟨"RippleCountsModel", "carries", "(I)I"⟩, 7)]
theorem lw_r3 : ∀ q ∈ lw_privs_3, lw_okq q := List.forall_mem_cons.mpr ⟨lw_p32, List.forall_mem_cons.mpr ⟨lw_p33, List.forall_mem_cons.mpr ⟨lw_p34, List.forall_mem_cons.mpr ⟨lw_p35, List.forall_mem_cons.mpr ⟨lw_p36, List.forall_mem_cons.mpr ⟨lw_p37, List.forall_mem_cons.mpr ⟨lw_p38, List.forall_mem_cons.mpr ⟨lw_p39, List.forall_mem_cons.mpr ⟨lw_p40, List.forall_mem_cons.mpr ⟨lw_p41, fun _ h => absurd h List.not_mem_nil⟩⟩⟩⟩⟩⟩⟩⟩⟩⟩
def lw_privs : List (MethodName × Nat) := lw_privs_1 ++ (lw_privs_2 ++ (lw_privs_3))
def lw_tbl : List Cond := k2_sels lw_privs ++ tables_1
theorem lw_privs_ok : ∀ q ∈ lw_privs, lw_okq q := by
  show ∀ q ∈ lw_privs_1 ++ (lw_privs_2 ++ (lw_privs_3)), lw_okq q
  exact List.forall_mem_append.mpr ⟨lw_r1, List.forall_mem_append.mpr ⟨lw_r2, lw_r3⟩⟩
-- ===== end of PART A; then your names; then what follows =====
end
section
/-! ===== BEGIN words of one list among another's, by their places ===== -/
theorem goodIn_r {big : List Cond} (ws : List Cond) (ps : List Nat) (hp : ws = ps.filterMap (fun i => big[i]?)) (h : ws.all goodWord = true) : GoodIn big ws := by
  intro w hw
  have h1 := List.all_eq_true.mp h w hw
  rw [hp] at hw
  obtain ⟨i, -, hi⟩ := List.mem_filterMap.mp hw
  have hm : w ∈ big := by first | exact List.mem_of_getElem? hi | exact List.getElem?_mem hi
  exact ⟨hm, good_of_word h1⟩
theorem goodIn_app {big a b : List Cond} (ha : GoodIn big a) (hb : GoodIn big b) : GoodIn big (a ++ b) := fun w h => (List.mem_append.mp h).elim (ha w) (hb w)
theorem goodIn_ca {big a b : List Cond} {c : Cond} (ha : GoodIn big (c :: a)) (hb : GoodIn big b) : GoodIn big (c :: (a ++ b)) := fun w h => (List.mem_cons.mp h).elim (fun e => ha w (List.mem_cons.mpr (Or.inl e))) (fun h => (List.mem_append.mp h).elim (fun h => ha w (List.mem_cons.mpr (Or.inr h))) (hb w))
theorem goodIn_sub {big ws : List Cond} (hm : ∀ w ∈ ws, w ∈ big) (h : ws.all goodWord = true) : GoodIn big ws := fun w hw => ⟨hm w hw, good_of_word (List.all_eq_true.mp h w hw)⟩
/-! ===== END ===== -/

/-! ===== BEGIN printed: names, fields, word lists, decode rows ===== -/
def RX0 : String := "RippleCounts$Counter"
def TX0 : u_T := fun k => match k with
  | 0 => ("RippleCounts$Counter", "wave", "LRippleCounts$Wave;", true)
  | 1 => ("RippleCounts$Counter", "readings", "LRippleCounts$Readings;", true)
  | 2 => ("RippleCounts$Counter", "sightings", "LRippleCounts$Sightings;", true)
  | 3 => ("RippleCounts$Counter", "hold", "I", false)
  | 4 => ("RippleCounts$Counter", "clocks", "I", false)
  | 5 => ("RippleCounts$Counter", "lastClock", "I", false)
  | 6 => ("RippleCounts$Counter", "lastDone", "I", false)
  | _ => ("RippleCounts$Counter", "latchWaits", "Z", false)
def tyX0 : Nat → FieldType := fun k => match k with
  | 0 => .object "RippleCounts$Wave"
  | 1 => .object "RippleCounts$Readings"
  | 2 => .object "RippleCounts$Sightings"
  | 3 => .int
  | 4 => .int
  | 5 => .int
  | 6 => .int
  | _ => .boolean
abbrev wsX00 : List Cond := u_ws RX0 TX0 8
theorem nmX0 : ∀ a, a < 8 → ∀ b, b < 8 → a ≠ b → (TX0 a).2.1 ≠ (TX0 b).2.1 := by decide +kernel
theorem tyX0_ok : ∀ k, k < 8 → parseFieldDescriptor (TX0 k).2.2.1 = some (tyX0 k) := by decide +kernel
abbrev cX0_init : ByteArray := prog_2_method_1_code
def yX0_init : MethodName := ⟨RX0, "<init>", "()V"⟩
abbrev cX0_copyFrom : ByteArray := prog_2_method_2_code
def yX0_copyFrom : MethodName := ⟨RX0, "copyFrom", "(LRippleCounts$Counter;)V"⟩
abbrev cX0_change : ByteArray := prog_2_method_3_code
def yX0_change : MethodName := ⟨RX0, "change", "(II)I"⟩
abbrev cX0_changeDelay : ByteArray := prog_2_method_4_code
def yX0_changeDelay : MethodName := ⟨RX0, "changeDelay", "(II)I"⟩
abbrev cX0_takeClock : ByteArray := prog_2_method_5_code
def yX0_takeClock : MethodName := ⟨RX0, "takeClock", "()I"⟩
abbrev cX0_letPass : ByteArray := prog_2_method_6_code
def yX0_letPass : MethodName := ⟨RX0, "letPass", "(I)I"⟩
abbrev cX0_clockAndPass : ByteArray := prog_2_method_7_code
def yX0_clockAndPass : MethodName := ⟨RX0, "clockAndPass", "()I"⟩
abbrev cX0_readGate : ByteArray := prog_2_method_8_code
def yX0_readGate : MethodName := ⟨RX0, "readGate", "()I"⟩
abbrev cX0_startLatch : ByteArray := prog_2_method_9_code
def yX0_startLatch : MethodName := ⟨RX0, "startLatch", "()I"⟩
abbrev cX0_stillFor : ByteArray := prog_2_method_10_code
def yX0_stillFor : MethodName := ⟨RX0, "stillFor", "()I"⟩
abbrev cX0_changeStages : ByteArray := prog_2_method_11_code
def yX0_changeStages : MethodName := ⟨RX0, "changeStages", "(I)I"⟩
abbrev cX0_changeHold : ByteArray := prog_2_method_12_code
def yX0_changeHold : MethodName := ⟨RX0, "changeHold", "(I)I"⟩
abbrev cX0_nanosecond : ByteArray := prog_2_method_13_code
def yX0_nanosecond : MethodName := ⟨RX0, "nanosecond", "()I"⟩
abbrev cX0_isStill : ByteArray := prog_2_method_14_code
def yX0_isStill : MethodName := ⟨RX0, "isStill", "()Z"⟩
def RX1 : String := "RippleCounts$History"
def TX1 : u_T := fun k => match k with
  | 0 => ("RippleCounts$History", "kept", "I", false)
  | 1 => ("RippleCounts$History", "oldest", "I", false)
  | _ => ("RippleCounts$History", "rows", "[LRippleCounts$Counter;", true)
def tyX1 : Nat → FieldType := fun k => match k with
  | 0 => .int
  | 1 => .int
  | _ => .array (.object "RippleCounts$Counter")
abbrev wsX10 : List Cond := u_ws RX1 TX1 3
theorem nmX1 : ∀ a, a < 3 → ∀ b, b < 3 → a ≠ b → (TX1 a).2.1 ≠ (TX1 b).2.1 := by decide +kernel
theorem tyX1_ok : ∀ k, k < 3 → parseFieldDescriptor (TX1 k).2.2.1 = some (tyX1 k) := by decide +kernel
abbrev cX1_init : ByteArray := prog_3_method_1_code
def yX1_init : MethodName := ⟨RX1, "<init>", "()V"⟩
abbrev cX1_prepare : ByteArray := prog_3_method_2_code
def yX1_prepare : MethodName := ⟨RX1, "prepare", "(LRippleCounts$Counter;)V"⟩
abbrev cX1_settle : ByteArray := prog_3_method_3_code
def yX1_settle : MethodName := ⟨RX1, "settle", "(I)I"⟩
abbrev cX1_takeBack : ByteArray := prog_3_method_4_code
def yX1_takeBack : MethodName := ⟨RX1, "takeBack", "(LRippleCounts$Counter;)I"⟩
abbrev cX1_spareRow : ByteArray := prog_3_method_5_code
def yX1_spareRow : MethodName := ⟨RX1, "spareRow", "()I"⟩
def RX2 : String := "RippleCounts$Pad"
def TX2 : u_T := fun k => match k with
  | 0 => ("RippleCounts$Pad", "length", "I", false)
  | _ => ("RippleCounts$Pad", "signs", "[I", true)
def tyX2 : Nat → FieldType := fun k => match k with
  | 0 => .int
  | _ => .array .int
abbrev wsX20 : List Cond := u_ws RX2 TX2 2
theorem nmX2 : ∀ a, a < 2 → ∀ b, b < 2 → a ≠ b → (TX2 a).2.1 ≠ (TX2 b).2.1 := by decide +kernel
theorem tyX2_ok : ∀ k, k < 2 → parseFieldDescriptor (TX2 k).2.2.1 = some (tyX2 k) := by decide +kernel
abbrev cX2_init : ByteArray := prog_4_method_1_code
def yX2_init : MethodName := ⟨RX2, "<init>", "()V"⟩
abbrev cX2_append : ByteArray := prog_4_method_2_code
def yX2_append : MethodName := ⟨RX2, "append", "(J)I"⟩
abbrev cX2_clear : ByteArray := prog_4_method_3_code
def yX2_clear : MethodName := ⟨RX2, "clear", "()I"⟩
abbrev cX2_firstFault : ByteArray := prog_4_method_4_code
def yX2_firstFault : MethodName := ⟨RX2, "firstFault", "()I"⟩
abbrev cX2_signAt : ByteArray := prog_4_method_5_code
def yX2_signAt : MethodName := ⟨RX2, "signAt", "(I)I"⟩
abbrev cX2_isDigitAt : ByteArray := prog_4_method_6_code
def yX2_isDigitAt : MethodName := ⟨RX2, "isDigitAt", "(I)Z"⟩
abbrev cX2_digitAt : ByteArray := prog_4_method_7_code
def yX2_digitAt : MethodName := ⟨RX2, "digitAt", "(I)I"⟩
abbrev cX2_numberAt : ByteArray := prog_4_method_8_code
def yX2_numberAt : MethodName := ⟨RX2, "numberAt", "(I)I"⟩
abbrev cX2_ordersAt : ByteArray := prog_4_method_9_code
def yX2_ordersAt : MethodName := ⟨RX2, "ordersAt", "(I)I"⟩
abbrev cX2_charactersIn : ByteArray := prog_4_method_10_code
def yX2_charactersIn : MethodName := ⟨RX2, "charactersIn", "(J)I"⟩
abbrev cX2_isDigit : ByteArray := prog_4_method_11_code
def yX2_isDigit : MethodName := ⟨RX2, "isDigit", "(I)Z"⟩
abbrev cX2_placeAfter : ByteArray := prog_4_method_12_code
def yX2_placeAfter : MethodName := ⟨RX2, "placeAfter", "(II)I"⟩
abbrev cX2_afterLetter : ByteArray := prog_4_method_13_code
def yX2_afterLetter : MethodName := ⟨RX2, "afterLetter", "(I)I"⟩
abbrev cX2_afterFirstDigit : ByteArray := prog_4_method_14_code
def yX2_afterFirstDigit : MethodName := ⟨RX2, "afterFirstDigit", "(I)I"⟩
abbrev cX2_afterOrder : ByteArray := prog_4_method_15_code
def yX2_afterOrder : MethodName := ⟨RX2, "afterOrder", "(I)I"⟩
def RX3 : String := "RippleCounts$Readings"
def TX3 : u_T := fun k => match k with
  | 0 => ("RippleCounts$Readings", "size", "I", false)
  | 1 => ("RippleCounts$Readings", "numbers", "[I", true)
  | 2 => ("RippleCounts$Readings", "times", "[I", true)
  | 3 => ("RippleCounts$Readings", "counts", "[I", true)
  | _ => ("RippleCounts$Readings", "latched", "[Z", true)
def tyX3 : Nat → FieldType := fun k => match k with
  | 0 => .int
  | 1 => .array .int
  | 2 => .array .int
  | 3 => .array .int
  | _ => .array .boolean
abbrev wsX30 : List Cond := u_ws RX3 TX3 5
theorem nmX3 : ∀ a, a < 5 → ∀ b, b < 5 → a ≠ b → (TX3 a).2.1 ≠ (TX3 b).2.1 := by decide +kernel
theorem tyX3_ok : ∀ k, k < 5 → parseFieldDescriptor (TX3 k).2.2.1 = some (tyX3 k) := by decide +kernel
abbrev cX3_init : ByteArray := prog_5_method_1_code
def yX3_init : MethodName := ⟨RX3, "<init>", "()V"⟩
abbrev cX3_copyFrom : ByteArray := prog_5_method_2_code
def yX3_copyFrom : MethodName := ⟨RX3, "copyFrom", "(LRippleCounts$Readings;)V"⟩
abbrev cX3_clear : ByteArray := prog_5_method_3_code
def yX3_clear : MethodName := ⟨RX3, "clear", "()V"⟩
abbrev cX3_add : ByteArray := prog_5_method_4_code
def yX3_add : MethodName := ⟨RX3, "add", "(IIIZ)V"⟩
abbrev cX3_tell : ByteArray := prog_5_method_5_code
def yX3_tell : MethodName := ⟨RX3, "tell", "(II)I"⟩
abbrev cX3_trueOnes : ByteArray := prog_5_method_6_code
def yX3_trueOnes : MethodName := ⟨RX3, "trueOnes", "()I"⟩
abbrev cX3_isTrue : ByteArray := prog_5_method_7_code
def yX3_isTrue : MethodName := ⟨RX3, "isTrue", "(I)Z"⟩
def RX4 : String := "RippleCounts$Sightings"
def TX4 : u_T := fun k => match k with
  | 0 => ("RippleCounts$Sightings", "size", "I", false)
  | 1 => ("RippleCounts$Sightings", "ranked", "[I", true)
  | 2 => ("RippleCounts$Sightings", "often", "[I", true)
  | 3 => ("RippleCounts$Sightings", "flashes", "[I", true)
  | _ => ("RippleCounts$Sightings", "firstTimes", "[I", true)
def tyX4 : Nat → FieldType := fun k => match k with
  | 0 => .int
  | 1 => .array .int
  | 2 => .array .int
  | 3 => .array .int
  | _ => .array .int
abbrev wsX40 : List Cond := u_ws RX4 TX4 5
theorem nmX4 : ∀ a, a < 5 → ∀ b, b < 5 → a ≠ b → (TX4 a).2.1 ≠ (TX4 b).2.1 := by decide +kernel
theorem tyX4_ok : ∀ k, k < 5 → parseFieldDescriptor (TX4 k).2.2.1 = some (tyX4 k) := by decide +kernel
abbrev cX4_init : ByteArray := prog_6_method_1_code
def yX4_init : MethodName := ⟨RX4, "<init>", "()V"⟩
abbrev cX4_copyFrom : ByteArray := prog_6_method_2_code
def yX4_copyFrom : MethodName := ⟨RX4, "copyFrom", "(LRippleCounts$Sightings;)V"⟩
abbrev cX4_clear : ByteArray := prog_6_method_3_code
def yX4_clear : MethodName := ⟨RX4, "clear", "()V"⟩
abbrev cX4_add : ByteArray := prog_6_method_4_code
def yX4_add : MethodName := ⟨RX4, "add", "(IIZ)V"⟩
abbrev cX4_tell : ByteArray := prog_6_method_5_code
def yX4_tell : MethodName := ⟨RX4, "tell", "(II)I"⟩
abbrev cX4_allNumbers : ByteArray := prog_6_method_6_code
def yX4_allNumbers : MethodName := ⟨RX4, "allNumbers", "()I"⟩
abbrev cX4_flashedNumbers : ByteArray := prog_6_method_7_code
def yX4_flashedNumbers : MethodName := ⟨RX4, "flashedNumbers", "()I"⟩
abbrev cX4_numbersWith : ByteArray := prog_6_method_8_code
def yX4_numbersWith : MethodName := ⟨RX4, "numbersWith", "([I)I"⟩
def RX5 : String := "RippleCounts$Wave"
def TX5 : u_T := fun k => match k with
  | 0 => ("RippleCounts$Wave", "time", "I", false)
  | 1 => ("RippleCounts$Wave", "stages", "I", false)
  | 2 => ("RippleCounts$Wave", "shows", "I", false)
  | 3 => ("RippleCounts$Wave", "onTheirWay", "I", false)
  | 4 => ("RippleCounts$Wave", "delays", "[I", true)
  | 5 => ("RippleCounts$Wave", "done", "[I", true)
  | _ => ("RippleCounts$Wave", "due", "[I", true)
def tyX5 : Nat → FieldType := fun k => match k with
  | 0 => .int
  | 1 => .int
  | 2 => .int
  | 3 => .int
  | 4 => .array .int
  | 5 => .array .int
  | _ => .array .int
abbrev wsX50 : List Cond := u_ws RX5 TX5 7
theorem nmX5 : ∀ a, a < 7 → ∀ b, b < 7 → a ≠ b → (TX5 a).2.1 ≠ (TX5 b).2.1 := by decide +kernel
theorem tyX5_ok : ∀ k, k < 7 → parseFieldDescriptor (TX5 k).2.2.1 = some (tyX5 k) := by decide +kernel
abbrev cX5_init : ByteArray := prog_7_method_1_code
def yX5_init : MethodName := ⟨RX5, "<init>", "()V"⟩
abbrev cX5_copyFrom : ByteArray := prog_7_method_2_code
def yX5_copyFrom : MethodName := ⟨RX5, "copyFrom", "(LRippleCounts$Wave;)V"⟩
abbrev cX5_beginAnew : ByteArray := prog_7_method_3_code
def yX5_beginAnew : MethodName := ⟨RX5, "beginAnew", "(I)V"⟩
abbrev cX5_hasStage : ByteArray := prog_7_method_4_code
def yX5_hasStage : MethodName := ⟨RX5, "hasStage", "(I)Z"⟩
abbrev cX5_output : ByteArray := prog_7_method_5_code
def yX5_output : MethodName := ⟨RX5, "output", "(I)I"⟩
abbrev cX5_begin : ByteArray := prog_7_method_6_code
def yX5_begin : MethodName := ⟨RX5, "begin", "(II)V"⟩
abbrev cX5_turnDue : ByteArray := prog_7_method_7_code
def yX5_turnDue : MethodName := ⟨RX5, "turnDue", "()I"⟩
abbrev cX5_nanosecond : ByteArray := prog_7_method_8_code
def yX5_nanosecond : MethodName := ⟨RX5, "nanosecond", "()V"⟩
abbrev cX5_onTheirWayIn : ByteArray := prog_7_method_9_code
def yX5_onTheirWayIn : MethodName := ⟨RX5, "onTheirWayIn", "(I)I"⟩
abbrev cX5_untilNext : ByteArray := prog_7_method_10_code
def yX5_untilNext : MethodName := ⟨RX5, "untilNext", "(I)I"⟩
abbrev cX5_throughAll : ByteArray := prog_7_method_11_code
def yX5_throughAll : MethodName := ⟨RX5, "throughAll", "()I"⟩
abbrev cX5_wrongReadings : ByteArray := prog_7_method_12_code
def yX5_wrongReadings : MethodName := ⟨RX5, "wrongReadings", "(I)I"⟩
abbrev cX5_readsTrue : ByteArray := prog_7_method_13_code
def yX5_readsTrue : MethodName := ⟨RX5, "readsTrue", "(II)Z"⟩
abbrev cX5_turnOver : ByteArray := prog_7_method_14_code
def yX5_turnOver : MethodName := ⟨RX5, "turnOver", "(II)I"⟩
def RX6 : String := "RippleCounts"
def TX6 : u_T := fun k => match k with
  | 0 => ("RippleCounts", "now", "LRippleCounts$Counter;", true)
  | 1 => ("RippleCounts", "history", "LRippleCounts$History;", true)
  | 2 => ("RippleCounts", "slots", "[LRippleCounts$Counter;", true)
  | 3 => ("RippleCounts", "slotUsed", "[Z", true)
  | 4 => ("RippleCounts", "trial", "LRippleCounts$Wave;", true)
  | _ => ("RippleCounts", "pad", "LRippleCounts$Pad;", true)
def tyX6 : Nat → FieldType := fun k => match k with
  | 0 => .object "RippleCounts$Counter"
  | 1 => .object "RippleCounts$History"
  | 2 => .array (.object "RippleCounts$Counter")
  | 3 => .array .boolean
  | 4 => .object "RippleCounts$Wave"
  | _ => .object "RippleCounts$Pad"
abbrev wsX60 : List Cond := u_ws RX6 TX6 6
theorem nmX6 : ∀ a, a < 6 → ∀ b, b < 6 → a ≠ b → (TX6 a).2.1 ≠ (TX6 b).2.1 := by decide +kernel
theorem tyX6_ok : ∀ k, k < 6 → parseFieldDescriptor (TX6 k).2.2.1 = some (tyX6 k) := by decide +kernel
abbrev cX6_init : ByteArray := prog_1_method_1_code
def yX6_init : MethodName := ⟨RX6, "<init>", "()V"⟩
abbrev cX6_set : ByteArray := prog_1_method_2_code
def yX6_set : MethodName := ⟨RX6, "set", "(II)I"⟩
abbrev cX6_delay : ByteArray := prog_1_method_3_code
def yX6_delay : MethodName := ⟨RX6, "delay", "(II)I"⟩
abbrev cX6_clock : ByteArray := prog_1_method_4_code
def yX6_clock : MethodName := ⟨RX6, "clock", "()I"⟩
abbrev cX6_pass : ByteArray := prog_1_method_5_code
def yX6_pass : MethodName := ⟨RX6, "pass", "(I)I"⟩
abbrev cX6_read : ByteArray := prog_1_method_6_code
def yX6_read : MethodName := ⟨RX6, "read", "()I"⟩
abbrev cX6_latch : ByteArray := prog_1_method_7_code
def yX6_latch : MethodName := ⟨RX6, "latch", "()I"⟩
abbrev cX6_of : ByteArray := prog_1_method_8_code
def yX6_of : MethodName := ⟨RX6, "of", "(II)I"⟩
abbrev cX6_reading : ByteArray := prog_1_method_9_code
def yX6_reading : MethodName := ⟨RX6, "reading", "(II)I"⟩
abbrev cX6_seen : ByteArray := prog_1_method_10_code
def yX6_seen : MethodName := ⟨RX6, "seen", "(II)I"⟩
abbrev cX6_count : ByteArray := prog_1_method_11_code
def yX6_count : MethodName := ⟨RX6, "count", "(I)I"⟩
abbrev cX6_stillIn : ByteArray := prog_1_method_12_code
def yX6_stillIn : MethodName := ⟨RX6, "stillIn", "()I"⟩
abbrev cX6_showsIn : ByteArray := prog_1_method_13_code
def yX6_showsIn : MethodName := ⟨RX6, "showsIn", "(I)I"⟩
abbrev cX6_wrong : ByteArray := prog_1_method_14_code
def yX6_wrong : MethodName := ⟨RX6, "wrong", "(I)I"⟩
abbrev cX6_safeGap : ByteArray := prog_1_method_15_code
def yX6_safeGap : MethodName := ⟨RX6, "safeGap", "()I"⟩
abbrev cX6_toBlame : ByteArray := prog_1_method_16_code
def yX6_toBlame : MethodName := ⟨RX6, "toBlame", "(I)I"⟩
abbrev cX6_put : ByteArray := prog_1_method_17_code
def yX6_put : MethodName := ⟨RX6, "put", "(J)I"⟩
abbrev cX6_wipe : ByteArray := prog_1_method_18_code
def yX6_wipe : MethodName := ⟨RX6, "wipe", "()I"⟩
abbrev cX6_fault : ByteArray := prog_1_method_19_code
def yX6_fault : MethodName := ⟨RX6, "fault", "()I"⟩
abbrev cX6_carryOut : ByteArray := prog_1_method_20_code
def yX6_carryOut : MethodName := ⟨RX6, "carryOut", "()I"⟩
abbrev cX6_undo : ByteArray := prog_1_method_21_code
def yX6_undo : MethodName := ⟨RX6, "undo", "()I"⟩
abbrev cX6_save : ByteArray := prog_1_method_22_code
def yX6_save : MethodName := ⟨RX6, "save", "(I)I"⟩
abbrev cX6_restore : ByteArray := prog_1_method_23_code
def yX6_restore : MethodName := ⟨RX6, "restore", "(I)I"⟩
abbrev cX6_gapAbove : ByteArray := prog_1_method_24_code
def yX6_gapAbove : MethodName := ⟨RX6, "gapAbove", "(I)I"⟩
abbrev cX6_gapIfFast : ByteArray := prog_1_method_25_code
def yX6_gapIfFast : MethodName := ⟨RX6, "gapIfFast", "(LRippleCounts$Wave;I)I"⟩
abbrev cX6_carryAll : ByteArray := prog_1_method_26_code
def yX6_carryAll : MethodName := ⟨RX6, "carryAll", "()I"⟩
abbrev cX6_carryOne : ByteArray := prog_1_method_27_code
def yX6_carryOne : MethodName := ⟨RX6, "carryOne", "(I)I"⟩
def RX7 : String := "RippleCountsModel"
def TX7 : u_T := fun k => match k with
  | 0 => ("RippleCountsModel", "s", "[I", true)
  | 1 => ("RippleCountsModel", "past", "[I", true)
  | 2 => ("RippleCountsModel", "known", "I", false)
  | 3 => ("RippleCountsModel", "slots", "[I", true)
  | 4 => ("RippleCountsModel", "isSaved", "[Z", true)
  | 5 => ("RippleCountsModel", "pad", "[I", true)
  | _ => ("RippleCountsModel", "length", "I", false)
def tyX7 : Nat → FieldType := fun k => match k with
  | 0 => .array .int
  | 1 => .array .int
  | 2 => .int
  | 3 => .array .int
  | 4 => .array .boolean
  | 5 => .array .int
  | _ => .int
abbrev wsX70 : List Cond := u_ws RX7 TX7 7
theorem nmX7 : ∀ a, a < 7 → ∀ b, b < 7 → a ≠ b → (TX7 a).2.1 ≠ (TX7 b).2.1 := by decide +kernel
theorem tyX7_ok : ∀ k, k < 7 → parseFieldDescriptor (TX7 k).2.2.1 = some (tyX7 k) := by decide +kernel
abbrev cX7_init : ByteArray := prog_9_method_1_code
def yX7_init : MethodName := ⟨RX7, "<init>", "()V"⟩
abbrev cX7_in : ByteArray := prog_9_method_3_code
def yX7_in : MethodName := ⟨RX7, "in", "(III)Z"⟩
abbrev cX7_remembers : ByteArray := prog_9_method_4_code
def yX7_remembers : MethodName := ⟨RX7, "remembers", "()V"⟩
abbrev cX7_copies : ByteArray := prog_9_method_5_code
def yX7_copies : MethodName := ⟨RX7, "copies", "()V"⟩
abbrev cX7_begins : ByteArray := prog_9_method_6_code
def yX7_begins : MethodName := ⟨RX7, "begins", "(I)V"⟩
abbrev cX7_stages : ByteArray := prog_9_method_7_code
def yX7_stages : MethodName := ⟨RX7, "stages", "(I)I"⟩
abbrev cX7_due : ByteArray := prog_9_method_8_code
def yX7_due : MethodName := ⟨RX7, "due", "(III)I"⟩
abbrev cX7_shows : ByteArray := prog_9_method_9_code
def yX7_shows : MethodName := ⟨RX7, "shows", "(I)I"⟩
abbrev cX7_onWay : ByteArray := prog_9_method_10_code
def yX7_onWay : MethodName := ⟨RX7, "onWay", "(II)I"⟩
abbrev cX7_allOnWay : ByteArray := prog_9_method_11_code
def yX7_allOnWay : MethodName := ⟨RX7, "allOnWay", "(I)I"⟩
abbrev cX7_turns : ByteArray := prog_9_method_12_code
def yX7_turns : MethodName := ⟨RX7, "turns", "(II)V"⟩
abbrev cX7_clocks : ByteArray := prog_9_method_13_code
def yX7_clocks : MethodName := ⟨RX7, "clocks", "(I)V"⟩
abbrev cX7_done : ByteArray := prog_9_method_14_code
def yX7_done : MethodName := ⟨RX7, "done", "(II)V"⟩
abbrev cX7_sees : ByteArray := prog_9_method_15_code
def yX7_sees : MethodName := ⟨RX7, "sees", "(I)V"⟩
abbrev cX7_reads : ByteArray := prog_9_method_16_code
def yX7_reads : MethodName := ⟨RX7, "reads", "(II)V"⟩
abbrev cX7_passesOne : ByteArray := prog_9_method_17_code
def yX7_passesOne : MethodName := ⟨RX7, "passesOne", "(I)I"⟩
abbrev cX7_passes : ByteArray := prog_9_method_18_code
def yX7_passes : MethodName := ⟨RX7, "passes", "(II)I"⟩
abbrev cX7_clockNow : ByteArray := prog_9_method_19_code
def yX7_clockNow : MethodName := ⟨RX7, "clockNow", "()I"⟩
abbrev cX7_whyNotPass : ByteArray := prog_9_method_20_code
def yX7_whyNotPass : MethodName := ⟨RX7, "whyNotPass", "(I)I"⟩
abbrev cX7_whyNotDelay : ByteArray := prog_9_method_21_code
def yX7_whyNotDelay : MethodName := ⟨RX7, "whyNotDelay", "(II)I"⟩
abbrev cX7_whyNotRead : ByteArray := prog_9_method_22_code
def yX7_whyNotRead : MethodName := ⟨RX7, "whyNotRead", "()I"⟩
abbrev cX7_whyNotLatch : ByteArray := prog_9_method_23_code
def yX7_whyNotLatch : MethodName := ⟨RX7, "whyNotLatch", "()I"⟩
abbrev cX7_set : ByteArray := prog_9_method_24_code
def yX7_set : MethodName := ⟨RX7, "set", "(II)I"⟩
abbrev cX7_delay : ByteArray := prog_9_method_25_code
def yX7_delay : MethodName := ⟨RX7, "delay", "(II)I"⟩
abbrev cX7_clock : ByteArray := prog_9_method_26_code
def yX7_clock : MethodName := ⟨RX7, "clock", "()I"⟩
abbrev cX7_pass : ByteArray := prog_9_method_27_code
def yX7_pass : MethodName := ⟨RX7, "pass", "(I)I"⟩
abbrev cX7_read : ByteArray := prog_9_method_28_code
def yX7_read : MethodName := ⟨RX7, "read", "()I"⟩
abbrev cX7_latch : ByteArray := prog_9_method_29_code
def yX7_latch : MethodName := ⟨RX7, "latch", "()I"⟩
abbrev cX7_nextDue : ByteArray := prog_9_method_30_code
def yX7_nextDue : MethodName := ⟨RX7, "nextDue", "(I)I"⟩
abbrev cX7_of : ByteArray := prog_9_method_31_code
def yX7_of : MethodName := ⟨RX7, "of", "(II)I"⟩
abbrev cX7_ofReading : ByteArray := prog_9_method_32_code
def yX7_ofReading : MethodName := ⟨RX7, "ofReading", "(II)I"⟩
abbrev cX7_reading : ByteArray := prog_9_method_33_code
def yX7_reading : MethodName := ⟨RX7, "reading", "(II)I"⟩
abbrev cX7_seen : ByteArray := prog_9_method_34_code
def yX7_seen : MethodName := ⟨RX7, "seen", "(II)I"⟩
abbrev cX7_trueReadings : ByteArray := prog_9_method_35_code
def yX7_trueReadings : MethodName := ⟨RX7, "trueReadings", "()I"⟩
abbrev cX7_numbers : ByteArray := prog_9_method_36_code
def yX7_numbers : MethodName := ⟨RX7, "numbers", "(I)I"⟩
abbrev cX7_count : ByteArray := prog_9_method_37_code
def yX7_count : MethodName := ⟨RX7, "count", "(I)I"⟩
abbrev cX7_stillIn : ByteArray := prog_9_method_38_code
def yX7_stillIn : MethodName := ⟨RX7, "stillIn", "()I"⟩
abbrev cX7_showsIn : ByteArray := prog_9_method_39_code
def yX7_showsIn : MethodName := ⟨RX7, "showsIn", "(I)I"⟩
abbrev cX7_wrongWith : ByteArray := prog_9_method_40_code
def yX7_wrongWith : MethodName := ⟨RX7, "wrongWith", "(I)I"⟩
abbrev cX7_wrong : ByteArray := prog_9_method_41_code
def yX7_wrong : MethodName := ⟨RX7, "wrong", "(I)I"⟩
abbrev cX7_safe : ByteArray := prog_9_method_42_code
def yX7_safe : MethodName := ⟨RX7, "safe", "()I"⟩
abbrev cX7_safeGap : ByteArray := prog_9_method_43_code
def yX7_safeGap : MethodName := ⟨RX7, "safeGap", "()I"⟩
abbrev cX7_toBlame : ByteArray := prog_9_method_44_code
def yX7_toBlame : MethodName := ⟨RX7, "toBlame", "(I)I"⟩
abbrev cX7_put : ByteArray := prog_9_method_45_code
def yX7_put : MethodName := ⟨RX7, "put", "(J)I"⟩
abbrev cX7_wipe : ByteArray := prog_9_method_46_code
def yX7_wipe : MethodName := ⟨RX7, "wipe", "()I"⟩
abbrev cX7_sign : ByteArray := prog_9_method_47_code
def yX7_sign : MethodName := ⟨RX7, "sign", "(I)I"⟩
abbrev cX7_digit : ByteArray := prog_9_method_48_code
def yX7_digit : MethodName := ⟨RX7, "digit", "(I)I"⟩
abbrev cX7_numberEnd : ByteArray := prog_9_method_49_code
def yX7_numberEnd : MethodName := ⟨RX7, "numberEnd", "(I)I"⟩
abbrev cX7_numberAt : ByteArray := prog_9_method_50_code
def yX7_numberAt : MethodName := ⟨RX7, "numberAt", "(I)I"⟩
abbrev cX7_orderEnd : ByteArray := prog_9_method_51_code
def yX7_orderEnd : MethodName := ⟨RX7, "orderEnd", "(I)I"⟩
abbrev cX7_fault : ByteArray := prog_9_method_52_code
def yX7_fault : MethodName := ⟨RX7, "fault", "()I"⟩
abbrev cX7_carries : ByteArray := prog_9_method_53_code
def yX7_carries : MethodName := ⟨RX7, "carries", "(I)I"⟩
abbrev cX7_ticks : ByteArray := prog_9_method_54_code
def yX7_ticks : MethodName := ⟨RX7, "ticks", "()I"⟩
abbrev cX7_carryOut : ByteArray := prog_9_method_55_code
def yX7_carryOut : MethodName := ⟨RX7, "carryOut", "()I"⟩
abbrev cX7_undo : ByteArray := prog_9_method_56_code
def yX7_undo : MethodName := ⟨RX7, "undo", "()I"⟩
abbrev cX7_save : ByteArray := prog_9_method_57_code
def yX7_save : MethodName := ⟨RX7, "save", "(I)I"⟩
abbrev cX7_restore : ByteArray := prog_9_method_58_code
def yX7_restore : MethodName := ⟨RX7, "restore", "(I)I"⟩
def RJ9 : String := "java/lang/Math"
def TJ9 : u_T := fun k => match k with
  | _ => ("", "", "", false)
def tyJ9 : Nat → FieldType := fun k => match k with
  | _ => .int
abbrev wsJ90 : List Cond := u_ws RJ9 TJ9 0
theorem nmJ9 : ∀ a, a < 0 → ∀ b, b < 0 → a ≠ b → (TJ9 a).2.1 ≠ (TJ9 b).2.1 := by decide +kernel
theorem tyJ9_ok : ∀ k, k < 0 → parseFieldDescriptor (TJ9 k).2.2.1 = some (tyJ9 k) := by decide +kernel
abbrev cJ9_max_7cf53 : ByteArray := prog_10_method_65_code
def yJ9_max_7cf53 : MethodName := ⟨RJ9, "max", "(II)I"⟩
abbrev cJ9_min_7cf53 : ByteArray := prog_10_method_69_code
def yJ9_min_7cf53 : MethodName := ⟨RJ9, "min", "(II)I"⟩
def RJ10 : String := "java/lang/System"
def TJ10 : u_T := fun k => match k with
  | _ => ("", "", "", false)
def tyJ10 : Nat → FieldType := fun k => match k with
  | _ => .int
abbrev wsJ100 : List Cond := u_ws RJ10 TJ10 0
theorem nmJ10 : ∀ a, a < 0 → ∀ b, b < 0 → a ≠ b → (TJ10 a).2.1 ≠ (TJ10 b).2.1 := by decide +kernel
theorem tyJ10_ok : ∀ k, k < 0 → parseFieldDescriptor (TJ10 k).2.2.1 = some (tyJ10 k) := by decide +kernel
def RJ7 : String := "java/util/Arrays"
def TJ7 : u_T := fun k => match k with
  | _ => ("", "", "", false)
def tyJ7 : Nat → FieldType := fun k => match k with
  | _ => .int
abbrev wsJ70 : List Cond := u_ws RJ7 TJ7 0
theorem nmJ7 : ∀ a, a < 0 → ∀ b, b < 0 → a ≠ b → (TJ7 a).2.1 ≠ (TJ7 b).2.1 := by decide +kernel
theorem tyJ7_ok : ∀ k, k < 0 → parseFieldDescriptor (TJ7 k).2.2.1 = some (tyJ7 k) := by decide +kernel
abbrev cJ7_fill_53178 : ByteArray := prog_12_method_103_code
def yJ7_fill_53178 : MethodName := ⟨RJ7, "fill", "([II)V"⟩
def RL : String := "RippleCountsLaw"
abbrev cL_law : ByteArray := code
def yL_law : MethodName := ⟨RL, "law", "([I)Z"⟩
def wsJ7_fill_53178 : List Cond := .code yJ7_fill_53178 cJ7_fill_53178 4 none :: ([])
def wsX5_init : List Cond := .code yX5_init cX5_init 1 none :: ([.methodLink RX5 3 objectInit, .instanceMethod objectInit, .code objectInit ⟨#[0xb1]⟩ 1 none, .fieldLink RX5 9 "RippleCounts$Wave" "stages" "I", .arrayClass .int, .fieldLink RX5 15 "RippleCounts$Wave" "delays" "[I", .fieldLink RX5 19 "RippleCounts$Wave" "done" "[I", .fieldLink RX5 22 "RippleCounts$Wave" "due" "[I", .methodLink RX5 25 yJ7_fill_53178, .static yJ7_fill_53178, .initialized RJ7, .code yJ7_fill_53178 cJ7_fill_53178 4 none] ++ wsX50)
def wsX3_init : List Cond := .code yX3_init cX3_init 1 none :: ([.methodLink RX3 3 objectInit, .instanceMethod objectInit, .code objectInit ⟨#[0xb1]⟩ 1 none, .arrayClass .int, .fieldLink RX3 9 "RippleCounts$Readings" "numbers" "[I", .fieldLink RX3 15 "RippleCounts$Readings" "times" "[I", .fieldLink RX3 18 "RippleCounts$Readings" "counts" "[I", .arrayClass .boolean, .fieldLink RX3 21 "RippleCounts$Readings" "latched" "[Z"] ++ wsX30)
def wsX4_init : List Cond := .code yX4_init cX4_init 1 none :: ([.methodLink RX4 3 objectInit, .instanceMethod objectInit, .code objectInit ⟨#[0xb1]⟩ 1 none, .arrayClass .int, .fieldLink RX4 9 "RippleCounts$Sightings" "ranked" "[I", .fieldLink RX4 15 "RippleCounts$Sightings" "often" "[I", .fieldLink RX4 18 "RippleCounts$Sightings" "flashes" "[I", .fieldLink RX4 21 "RippleCounts$Sightings" "firstTimes" "[I"] ++ wsX40)
def wsX0_init_r1 : List Cond := [Cond.methodLink RX0 3 objectInit, Cond.instanceMethod objectInit, Cond.code objectInit ⟨#[0xb1]⟩ 1 none, Cond.classLink RX0 9 RX5, Cond.instantiable RX5 7, Cond.initialized RX5, Cond.fieldLink RX0 12 "RippleCounts$Counter" "wave" "LRippleCounts$Wave;", Cond.classLink RX0 18 RX3, Cond.instantiable RX3 5, Cond.initialized RX3, Cond.fieldLink RX0 21 "RippleCounts$Counter" "readings" "LRippleCounts$Readings;", Cond.classLink RX0 25 RX4, Cond.instantiable RX4 5, Cond.initialized RX4, Cond.fieldLink RX0 28 "RippleCounts$Counter" "sightings" "LRippleCounts$Sightings;", Cond.fieldLink RX0 32 "RippleCounts$Counter" "hold" "I", Cond.fieldLink RX0 36 "RippleCounts$Counter" "lastClock" "I", Cond.fieldLink RX0 39 "RippleCounts$Counter" "lastDone" "I", Cond.methodLink RX0 11 yX5_init, Cond.instanceMethod yX5_init, Cond.code yX5_init cX5_init 1 none, Cond.methodLink RX5 3 objectInit, Cond.fieldLink RX5 9 "RippleCounts$Wave" "stages" "I", Cond.arrayClass .int]
def wsX0_init_r2 : List Cond := [Cond.fieldLink RX5 15 "RippleCounts$Wave" "delays" "[I", Cond.fieldLink RX5 19 "RippleCounts$Wave" "done" "[I", Cond.fieldLink RX5 22 "RippleCounts$Wave" "due" "[I", Cond.methodLink RX5 25 yJ7_fill_53178, Cond.static yJ7_fill_53178, Cond.initialized RJ7, Cond.code yJ7_fill_53178 cJ7_fill_53178 4 none, Cond.instanceMethod yX3_init, Cond.code yX3_init cX3_init 1 none, Cond.methodLink RX3 3 objectInit, Cond.fieldLink RX3 9 "RippleCounts$Readings" "numbers" "[I", Cond.fieldLink RX3 15 "RippleCounts$Readings" "times" "[I", Cond.fieldLink RX3 18 "RippleCounts$Readings" "counts" "[I", Cond.arrayClass .boolean, Cond.fieldLink RX3 21 "RippleCounts$Readings" "latched" "[Z", Cond.instanceMethod yX4_init, Cond.code yX4_init cX4_init 1 none, Cond.methodLink RX4 3 objectInit, Cond.fieldLink RX4 9 "RippleCounts$Sightings" "ranked" "[I", Cond.fieldLink RX4 15 "RippleCounts$Sightings" "often" "[I", Cond.fieldLink RX4 18 "RippleCounts$Sightings" "flashes" "[I", Cond.fieldLink RX4 21 "RippleCounts$Sightings" "firstTimes" "[I"]
def wsX0_init : List Cond := .code yX0_init cX0_init 1 none :: ((wsX0_init_r1 ++ wsX0_init_r2) ++ wsX50 ++ wsX00 ++ wsX30 ++ wsX40)
def wsX5_copyFrom : List Cond := .code yX5_copyFrom cX5_copyFrom 2 none :: ([.fieldLink RX5 31 "RippleCounts$Wave" "time" "I", .fieldLink RX5 9 "RippleCounts$Wave" "stages" "I", .fieldLink RX5 34 "RippleCounts$Wave" "shows" "I", .fieldLink RX5 37 "RippleCounts$Wave" "onTheirWay" "I", .fieldLink RX5 15 "RippleCounts$Wave" "delays" "[I", .methodLink RX5 40 arraycopyName, .native arraycopyName, .static arraycopyName, .initialized "java/lang/System", .fieldLink RX5 19 "RippleCounts$Wave" "done" "[I", .fieldLink RX5 22 "RippleCounts$Wave" "due" "[I"] ++ wsX50)
def wsX3_copyFrom : List Cond := .code yX3_copyFrom cX3_copyFrom 2 none :: ([.fieldLink RX3 25 "RippleCounts$Readings" "size" "I", .fieldLink RX3 9 "RippleCounts$Readings" "numbers" "[I", .methodLink RX3 29 arraycopyName, .native arraycopyName, .static arraycopyName, .initialized "java/lang/System", .fieldLink RX3 15 "RippleCounts$Readings" "times" "[I", .fieldLink RX3 18 "RippleCounts$Readings" "counts" "[I", .fieldLink RX3 21 "RippleCounts$Readings" "latched" "[Z"] ++ wsX30)
def wsX4_copyFrom : List Cond := .code yX4_copyFrom cX4_copyFrom 2 none :: ([.fieldLink RX4 24 "RippleCounts$Sightings" "size" "I", .fieldLink RX4 9 "RippleCounts$Sightings" "ranked" "[I", .methodLink RX4 28 arraycopyName, .native arraycopyName, .static arraycopyName, .initialized "java/lang/System", .fieldLink RX4 15 "RippleCounts$Sightings" "often" "[I", .fieldLink RX4 18 "RippleCounts$Sightings" "flashes" "[I", .fieldLink RX4 21 "RippleCounts$Sightings" "firstTimes" "[I"] ++ wsX40)
def wsX0_copyFrom_r1 : List Cond := [Cond.fieldLink RX0 12 "RippleCounts$Counter" "wave" "LRippleCounts$Wave;", Cond.fieldLink RX0 21 "RippleCounts$Counter" "readings" "LRippleCounts$Readings;", Cond.fieldLink RX0 28 "RippleCounts$Counter" "sightings" "LRippleCounts$Sightings;", Cond.fieldLink RX0 32 "RippleCounts$Counter" "hold" "I", Cond.fieldLink RX0 52 "RippleCounts$Counter" "clocks" "I", Cond.fieldLink RX0 36 "RippleCounts$Counter" "lastClock" "I", Cond.fieldLink RX0 39 "RippleCounts$Counter" "lastDone" "I", Cond.fieldLink RX0 55 "RippleCounts$Counter" "latchWaits" "Z", Cond.methodLink RX0 42 yX5_copyFrom, Cond.instanceMethod yX5_copyFrom, Cond.selects RX5 yX5_copyFrom yX5_copyFrom, Cond.initialized RX5, Cond.code yX5_copyFrom cX5_copyFrom 2 none, Cond.fieldLink RX5 31 "RippleCounts$Wave" "time" "I", Cond.fieldLink RX5 9 "RippleCounts$Wave" "stages" "I", Cond.fieldLink RX5 34 "RippleCounts$Wave" "shows" "I", Cond.fieldLink RX5 37 "RippleCounts$Wave" "onTheirWay" "I", Cond.fieldLink RX5 15 "RippleCounts$Wave" "delays" "[I", Cond.methodLink RX5 40 arraycopyName, Cond.native arraycopyName, Cond.static arraycopyName, Cond.initialized "java/lang/System", Cond.fieldLink RX5 19 "RippleCounts$Wave" "done" "[I", Cond.fieldLink RX5 22 "RippleCounts$Wave" "due" "[I"]
def wsX0_copyFrom_r2 : List Cond := [Cond.methodLink RX0 46 yX3_copyFrom, Cond.instanceMethod yX3_copyFrom, Cond.selects RX3 yX3_copyFrom yX3_copyFrom, Cond.initialized RX3, Cond.code yX3_copyFrom cX3_copyFrom 2 none, Cond.fieldLink RX3 25 "RippleCounts$Readings" "size" "I", Cond.fieldLink RX3 9 "RippleCounts$Readings" "numbers" "[I", Cond.methodLink RX3 29 arraycopyName, Cond.fieldLink RX3 15 "RippleCounts$Readings" "times" "[I", Cond.fieldLink RX3 18 "RippleCounts$Readings" "counts" "[I", Cond.fieldLink RX3 21 "RippleCounts$Readings" "latched" "[Z", Cond.methodLink RX0 49 yX4_copyFrom, Cond.instanceMethod yX4_copyFrom, Cond.selects RX4 yX4_copyFrom yX4_copyFrom, Cond.initialized RX4, Cond.code yX4_copyFrom cX4_copyFrom 2 none, Cond.fieldLink RX4 24 "RippleCounts$Sightings" "size" "I", Cond.fieldLink RX4 9 "RippleCounts$Sightings" "ranked" "[I", Cond.methodLink RX4 28 arraycopyName, Cond.fieldLink RX4 15 "RippleCounts$Sightings" "often" "[I", Cond.fieldLink RX4 18 "RippleCounts$Sightings" "flashes" "[I", Cond.fieldLink RX4 21 "RippleCounts$Sightings" "firstTimes" "[I"]
def wsX0_copyFrom : List Cond := .code yX0_copyFrom cX0_copyFrom 2 none :: ((wsX0_copyFrom_r1 ++ wsX0_copyFrom_r2) ++ wsX00 ++ wsX50 ++ wsX30 ++ wsX40)
def wsX5_beginAnew : List Cond := .code yX5_beginAnew cX5_beginAnew 2 none :: ([.fieldLink RX5 9 "RippleCounts$Wave" "stages" "I", .fieldLink RX5 34 "RippleCounts$Wave" "shows" "I", .fieldLink RX5 37 "RippleCounts$Wave" "onTheirWay" "I", .fieldLink RX5 19 "RippleCounts$Wave" "done" "[I", .fieldLink RX5 22 "RippleCounts$Wave" "due" "[I", .methodLink RX5 25 yJ7_fill_53178, .static yJ7_fill_53178, .initialized RJ7, .code yJ7_fill_53178 cJ7_fill_53178 4 none] ++ wsX50)
def wsX3_clear : List Cond := .code yX3_clear cX3_clear 1 none :: ([.fieldLink RX3 25 "RippleCounts$Readings" "size" "I"] ++ wsX30)
def wsX4_clear : List Cond := .code yX4_clear cX4_clear 1 none :: ([.fieldLink RX4 24 "RippleCounts$Sightings" "size" "I", .fieldLink RX4 15 "RippleCounts$Sightings" "often" "[I", .fieldLink RX4 18 "RippleCounts$Sightings" "flashes" "[I", .methodLink RX4 34 yJ7_fill_53178, .static yJ7_fill_53178, .initialized RJ7, .code yJ7_fill_53178 cJ7_fill_53178 4 none] ++ wsX40)
def wsX0_changeStages_r1 : List Cond := [Cond.fieldLink RX0 12 "RippleCounts$Counter" "wave" "LRippleCounts$Wave;", Cond.fieldLink RX0 77 "RippleCounts$Wave" "stages" "I", Cond.fieldLink RX0 21 "RippleCounts$Counter" "readings" "LRippleCounts$Readings;", Cond.fieldLink RX0 28 "RippleCounts$Counter" "sightings" "LRippleCounts$Sightings;", Cond.fieldLink RX0 52 "RippleCounts$Counter" "clocks" "I", Cond.fieldLink RX0 36 "RippleCounts$Counter" "lastClock" "I", Cond.fieldLink RX0 39 "RippleCounts$Counter" "lastDone" "I", Cond.fieldLink RX0 55 "RippleCounts$Counter" "latchWaits" "Z", Cond.methodLink RX0 101 yX5_beginAnew, Cond.instanceMethod yX5_beginAnew, Cond.selects RX5 yX5_beginAnew yX5_beginAnew, Cond.initialized RX5, Cond.code yX5_beginAnew cX5_beginAnew 2 none, Cond.fieldLink RX5 9 "RippleCounts$Wave" "stages" "I", Cond.fieldLink RX5 34 "RippleCounts$Wave" "shows" "I", Cond.fieldLink RX5 37 "RippleCounts$Wave" "onTheirWay" "I", Cond.fieldLink RX5 19 "RippleCounts$Wave" "done" "[I", Cond.fieldLink RX5 22 "RippleCounts$Wave" "due" "[I", Cond.methodLink RX5 25 yJ7_fill_53178, Cond.static yJ7_fill_53178, Cond.initialized RJ7, Cond.code yJ7_fill_53178 cJ7_fill_53178 4 none, Cond.methodLink RX0 105 yX3_clear, Cond.instanceMethod yX3_clear]
def wsX0_changeStages_r2 : List Cond := [Cond.selects RX3 yX3_clear yX3_clear, Cond.initialized RX3, Cond.code yX3_clear cX3_clear 1 none, Cond.fieldLink RX3 25 "RippleCounts$Readings" "size" "I", Cond.methodLink RX0 108 yX4_clear, Cond.instanceMethod yX4_clear, Cond.selects RX4 yX4_clear yX4_clear, Cond.initialized RX4, Cond.code yX4_clear cX4_clear 1 none, Cond.fieldLink RX4 24 "RippleCounts$Sightings" "size" "I", Cond.fieldLink RX4 15 "RippleCounts$Sightings" "often" "[I", Cond.fieldLink RX4 18 "RippleCounts$Sightings" "flashes" "[I", Cond.methodLink RX4 34 yJ7_fill_53178]
def wsX0_changeStages : List Cond := .code yX0_changeStages cX0_changeStages 3 (some .int) :: ((wsX0_changeStages_r1 ++ wsX0_changeStages_r2) ++ wsX00 ++ wsX50 ++ wsX30 ++ wsX40)
def wsX0_changeHold : List Cond := .code yX0_changeHold cX0_changeHold 3 (some .int) :: ([.fieldLink RX0 32 "RippleCounts$Counter" "hold" "I"] ++ wsX00)
def wsX0_change_r1 : List Cond := [Cond.methodLink RX0 59 yX0_changeStages, Cond.instanceMethod yX0_changeStages, Cond.selects RX0 yX0_changeStages yX0_changeStages, Cond.initialized RX0, Cond.code yX0_changeStages cX0_changeStages 3 (some .int), Cond.fieldLink RX0 12 "RippleCounts$Counter" "wave" "LRippleCounts$Wave;", Cond.fieldLink RX0 77 "RippleCounts$Wave" "stages" "I", Cond.fieldLink RX0 21 "RippleCounts$Counter" "readings" "LRippleCounts$Readings;", Cond.fieldLink RX0 28 "RippleCounts$Counter" "sightings" "LRippleCounts$Sightings;", Cond.fieldLink RX0 52 "RippleCounts$Counter" "clocks" "I", Cond.fieldLink RX0 36 "RippleCounts$Counter" "lastClock" "I", Cond.fieldLink RX0 39 "RippleCounts$Counter" "lastDone" "I", Cond.fieldLink RX0 55 "RippleCounts$Counter" "latchWaits" "Z", Cond.methodLink RX0 101 yX5_beginAnew, Cond.instanceMethod yX5_beginAnew, Cond.selects RX5 yX5_beginAnew yX5_beginAnew, Cond.initialized RX5, Cond.code yX5_beginAnew cX5_beginAnew 2 none, Cond.fieldLink RX5 9 "RippleCounts$Wave" "stages" "I", Cond.fieldLink RX5 34 "RippleCounts$Wave" "shows" "I", Cond.fieldLink RX5 37 "RippleCounts$Wave" "onTheirWay" "I", Cond.fieldLink RX5 19 "RippleCounts$Wave" "done" "[I", Cond.fieldLink RX5 22 "RippleCounts$Wave" "due" "[I", Cond.methodLink RX5 25 yJ7_fill_53178]
def wsX0_change_r2 : List Cond := [Cond.static yJ7_fill_53178, Cond.initialized RJ7, Cond.code yJ7_fill_53178 cJ7_fill_53178 4 none, Cond.methodLink RX0 105 yX3_clear, Cond.instanceMethod yX3_clear, Cond.selects RX3 yX3_clear yX3_clear, Cond.initialized RX3, Cond.code yX3_clear cX3_clear 1 none, Cond.fieldLink RX3 25 "RippleCounts$Readings" "size" "I", Cond.methodLink RX0 108 yX4_clear, Cond.instanceMethod yX4_clear, Cond.selects RX4 yX4_clear yX4_clear, Cond.initialized RX4, Cond.code yX4_clear cX4_clear 1 none, Cond.fieldLink RX4 24 "RippleCounts$Sightings" "size" "I", Cond.fieldLink RX4 15 "RippleCounts$Sightings" "often" "[I", Cond.fieldLink RX4 18 "RippleCounts$Sightings" "flashes" "[I", Cond.methodLink RX4 34 yJ7_fill_53178, Cond.methodLink RX0 63 yX0_changeHold, Cond.instanceMethod yX0_changeHold, Cond.selects RX0 yX0_changeHold yX0_changeHold, Cond.code yX0_changeHold cX0_changeHold 3 (some .int), Cond.fieldLink RX0 32 "RippleCounts$Counter" "hold" "I"]
def wsX0_change : List Cond := .code yX0_change cX0_change 3 (some .int) :: ((wsX0_change_r1 ++ wsX0_change_r2) ++ wsX00 ++ wsX50 ++ wsX30 ++ wsX40)
def wsX5_hasStage : List Cond := .code yX5_hasStage cX5_hasStage 2 (some .boolean) :: ([.fieldLink RX5 9 "RippleCounts$Wave" "stages" "I"] ++ wsX50)
def wsX0_changeDelay : List Cond := .code yX0_changeDelay cX0_changeDelay 4 (some .int) :: ([.fieldLink RX0 12 "RippleCounts$Counter" "wave" "LRippleCounts$Wave;", .fieldLink RX0 70 "RippleCounts$Wave" "delays" "[I", .methodLink RX0 66 yX5_hasStage, .instanceMethod yX5_hasStage, .selects RX5 yX5_hasStage yX5_hasStage, .initialized RX5, .code yX5_hasStage cX5_hasStage 2 (some .boolean), .fieldLink RX5 9 "RippleCounts$Wave" "stages" "I"] ++ wsX00 ++ wsX50)
def wsX5_begin : List Cond := .code yX5_begin cX5_begin 3 none :: ([.fieldLink RX5 22 "RippleCounts$Wave" "due" "[I", .fieldLink RX5 31 "RippleCounts$Wave" "time" "I", .fieldLink RX5 15 "RippleCounts$Wave" "delays" "[I", .fieldLink RX5 37 "RippleCounts$Wave" "onTheirWay" "I"] ++ wsX50)
def wsX0_takeClock : List Cond := .code yX0_takeClock cX0_takeClock 1 (some .int) :: ([.fieldLink RX0 36 "RippleCounts$Counter" "lastClock" "I", .fieldLink RX0 12 "RippleCounts$Counter" "wave" "LRippleCounts$Wave;", .fieldLink RX0 74 "RippleCounts$Wave" "time" "I", .fieldLink RX0 52 "RippleCounts$Counter" "clocks" "I", .fieldLink RX0 77 "RippleCounts$Wave" "stages" "I", .methodLink RX0 80 yX5_begin, .instanceMethod yX5_begin, .selects RX5 yX5_begin yX5_begin, .initialized RX5, .code yX5_begin cX5_begin 3 none, .fieldLink RX5 22 "RippleCounts$Wave" "due" "[I", .fieldLink RX5 31 "RippleCounts$Wave" "time" "I", .fieldLink RX5 15 "RippleCounts$Wave" "delays" "[I", .fieldLink RX5 37 "RippleCounts$Wave" "onTheirWay" "I"] ++ wsX00 ++ wsX50)
def wsX5_turnOver : List Cond := .code yX5_turnOver cX5_turnOver 4 (some .int) :: ([.fieldLink RX5 34 "RippleCounts$Wave" "shows" "I", .fieldLink RX5 19 "RippleCounts$Wave" "done" "[I"] ++ wsX50)
def wsX5_turnDue : List Cond := .code yX5_turnDue cX5_turnDue 6 (some .int) :: ([.fieldLink RX5 9 "RippleCounts$Wave" "stages" "I", .fieldLink RX5 31 "RippleCounts$Wave" "time" "I", .fieldLink RX5 22 "RippleCounts$Wave" "due" "[I", .fieldLink RX5 37 "RippleCounts$Wave" "onTheirWay" "I", .methodLink RX5 46 yX5_turnOver, .instanceMethod yX5_turnOver, .selects RX5 yX5_turnOver yX5_turnOver, .initialized RX5, .code yX5_turnOver cX5_turnOver 4 (some .int), .fieldLink RX5 34 "RippleCounts$Wave" "shows" "I", .fieldLink RX5 19 "RippleCounts$Wave" "done" "[I", .methodLink RX5 50 yX5_begin, .instanceMethod yX5_begin, .selects RX5 yX5_begin yX5_begin, .code yX5_begin cX5_begin 3 none, .fieldLink RX5 15 "RippleCounts$Wave" "delays" "[I"] ++ wsX50)
def wsX4_add : List Cond := .code yX4_add cX4_add 4 none :: ([.fieldLink RX4 15 "RippleCounts$Sightings" "often" "[I", .fieldLink RX4 24 "RippleCounts$Sightings" "size" "I", .fieldLink RX4 9 "RippleCounts$Sightings" "ranked" "[I", .fieldLink RX4 21 "RippleCounts$Sightings" "firstTimes" "[I", .fieldLink RX4 18 "RippleCounts$Sightings" "flashes" "[I"] ++ wsX40)
def wsX0_isStill : List Cond := .code yX0_isStill cX0_isStill 1 (some .boolean) :: ([.fieldLink RX0 12 "RippleCounts$Counter" "wave" "LRippleCounts$Wave;", .fieldLink RX0 119 "RippleCounts$Wave" "onTheirWay" "I", .fieldLink RX0 39 "RippleCounts$Counter" "lastDone" "I", .fieldLink RX0 74 "RippleCounts$Wave" "time" "I", .fieldLink RX0 32 "RippleCounts$Counter" "hold" "I"] ++ wsX00 ++ wsX50)
def wsX3_add : List Cond := .code yX3_add cX3_add 5 none :: ([.fieldLink RX3 25 "RippleCounts$Readings" "size" "I", .fieldLink RX3 9 "RippleCounts$Readings" "numbers" "[I", .fieldLink RX3 15 "RippleCounts$Readings" "times" "[I", .fieldLink RX3 18 "RippleCounts$Readings" "counts" "[I", .fieldLink RX3 21 "RippleCounts$Readings" "latched" "[Z"] ++ wsX30)
def wsX0_nanosecond_r1 : List Cond := [Cond.fieldLink RX0 12 "RippleCounts$Counter" "wave" "LRippleCounts$Wave;", Cond.fieldLink RX0 74 "RippleCounts$Wave" "time" "I", Cond.fieldLink RX0 39 "RippleCounts$Counter" "lastDone" "I", Cond.fieldLink RX0 28 "RippleCounts$Counter" "sightings" "LRippleCounts$Sightings;", Cond.fieldLink RX0 94 "RippleCounts$Wave" "shows" "I", Cond.fieldLink RX0 52 "RippleCounts$Counter" "clocks" "I", Cond.fieldLink RX0 55 "RippleCounts$Counter" "latchWaits" "Z", Cond.fieldLink RX0 21 "RippleCounts$Counter" "readings" "LRippleCounts$Readings;", Cond.methodLink RX0 109 yX5_turnDue, Cond.instanceMethod yX5_turnDue, Cond.selects RX5 yX5_turnDue yX5_turnDue, Cond.initialized RX5, Cond.code yX5_turnDue cX5_turnDue 6 (some .int), Cond.fieldLink RX5 9 "RippleCounts$Wave" "stages" "I", Cond.fieldLink RX5 31 "RippleCounts$Wave" "time" "I", Cond.fieldLink RX5 22 "RippleCounts$Wave" "due" "[I", Cond.fieldLink RX5 37 "RippleCounts$Wave" "onTheirWay" "I", Cond.methodLink RX5 46 yX5_turnOver, Cond.instanceMethod yX5_turnOver, Cond.selects RX5 yX5_turnOver yX5_turnOver, Cond.code yX5_turnOver cX5_turnOver 4 (some .int), Cond.fieldLink RX5 34 "RippleCounts$Wave" "shows" "I", Cond.fieldLink RX5 19 "RippleCounts$Wave" "done" "[I", Cond.methodLink RX5 50 yX5_begin]
def wsX0_nanosecond_r2 : List Cond := [Cond.instanceMethod yX5_begin, Cond.selects RX5 yX5_begin yX5_begin, Cond.code yX5_begin cX5_begin 3 none, Cond.fieldLink RX5 15 "RippleCounts$Wave" "delays" "[I", Cond.methodLink RX0 112 yX4_add, Cond.instanceMethod yX4_add, Cond.selects RX4 yX4_add yX4_add, Cond.initialized RX4, Cond.code yX4_add cX4_add 4 none, Cond.fieldLink RX4 15 "RippleCounts$Sightings" "often" "[I", Cond.fieldLink RX4 24 "RippleCounts$Sightings" "size" "I", Cond.fieldLink RX4 9 "RippleCounts$Sightings" "ranked" "[I", Cond.fieldLink RX4 21 "RippleCounts$Sightings" "firstTimes" "[I", Cond.fieldLink RX4 18 "RippleCounts$Sightings" "flashes" "[I", Cond.methodLink RX0 115 yX0_isStill, Cond.instanceMethod yX0_isStill, Cond.selects RX0 yX0_isStill yX0_isStill, Cond.initialized RX0, Cond.code yX0_isStill cX0_isStill 1 (some .boolean), Cond.fieldLink RX0 119 "RippleCounts$Wave" "onTheirWay" "I", Cond.fieldLink RX0 32 "RippleCounts$Counter" "hold" "I", Cond.methodLink RX0 97 yX3_add, Cond.instanceMethod yX3_add, Cond.selects RX3 yX3_add yX3_add]
def wsX0_nanosecond_r3 : List Cond := [Cond.initialized RX3, Cond.code yX3_add cX3_add 5 none, Cond.fieldLink RX3 25 "RippleCounts$Readings" "size" "I", Cond.fieldLink RX3 9 "RippleCounts$Readings" "numbers" "[I", Cond.fieldLink RX3 15 "RippleCounts$Readings" "times" "[I", Cond.fieldLink RX3 18 "RippleCounts$Readings" "counts" "[I", Cond.fieldLink RX3 21 "RippleCounts$Readings" "latched" "[Z"]
def wsX0_nanosecond : List Cond := .code yX0_nanosecond cX0_nanosecond 2 (some .int) :: ((wsX0_nanosecond_r1 ++ (wsX0_nanosecond_r2 ++ wsX0_nanosecond_r3)) ++ wsX00 ++ wsX50 ++ wsX40 ++ wsX30)
def wsX0_letPass_r1 : List Cond := [Cond.fieldLink RX0 12 "RippleCounts$Counter" "wave" "LRippleCounts$Wave;", Cond.fieldLink RX0 74 "RippleCounts$Wave" "time" "I", Cond.methodLink RX0 84 yX0_nanosecond, Cond.instanceMethod yX0_nanosecond, Cond.selects RX0 yX0_nanosecond yX0_nanosecond, Cond.initialized RX0, Cond.code yX0_nanosecond cX0_nanosecond 2 (some .int), Cond.fieldLink RX0 39 "RippleCounts$Counter" "lastDone" "I", Cond.fieldLink RX0 28 "RippleCounts$Counter" "sightings" "LRippleCounts$Sightings;", Cond.fieldLink RX0 94 "RippleCounts$Wave" "shows" "I", Cond.fieldLink RX0 52 "RippleCounts$Counter" "clocks" "I", Cond.fieldLink RX0 55 "RippleCounts$Counter" "latchWaits" "Z", Cond.fieldLink RX0 21 "RippleCounts$Counter" "readings" "LRippleCounts$Readings;", Cond.methodLink RX0 109 yX5_turnDue, Cond.instanceMethod yX5_turnDue, Cond.selects RX5 yX5_turnDue yX5_turnDue, Cond.initialized RX5, Cond.code yX5_turnDue cX5_turnDue 6 (some .int), Cond.fieldLink RX5 9 "RippleCounts$Wave" "stages" "I", Cond.fieldLink RX5 31 "RippleCounts$Wave" "time" "I", Cond.fieldLink RX5 22 "RippleCounts$Wave" "due" "[I", Cond.fieldLink RX5 37 "RippleCounts$Wave" "onTheirWay" "I", Cond.methodLink RX5 46 yX5_turnOver, Cond.instanceMethod yX5_turnOver]
def wsX0_letPass_r2 : List Cond := [Cond.selects RX5 yX5_turnOver yX5_turnOver, Cond.code yX5_turnOver cX5_turnOver 4 (some .int), Cond.fieldLink RX5 34 "RippleCounts$Wave" "shows" "I", Cond.fieldLink RX5 19 "RippleCounts$Wave" "done" "[I", Cond.methodLink RX5 50 yX5_begin, Cond.instanceMethod yX5_begin, Cond.selects RX5 yX5_begin yX5_begin, Cond.code yX5_begin cX5_begin 3 none, Cond.fieldLink RX5 15 "RippleCounts$Wave" "delays" "[I", Cond.methodLink RX0 112 yX4_add, Cond.instanceMethod yX4_add, Cond.selects RX4 yX4_add yX4_add, Cond.initialized RX4, Cond.code yX4_add cX4_add 4 none, Cond.fieldLink RX4 15 "RippleCounts$Sightings" "often" "[I", Cond.fieldLink RX4 24 "RippleCounts$Sightings" "size" "I", Cond.fieldLink RX4 9 "RippleCounts$Sightings" "ranked" "[I", Cond.fieldLink RX4 21 "RippleCounts$Sightings" "firstTimes" "[I", Cond.fieldLink RX4 18 "RippleCounts$Sightings" "flashes" "[I", Cond.methodLink RX0 115 yX0_isStill, Cond.instanceMethod yX0_isStill, Cond.selects RX0 yX0_isStill yX0_isStill, Cond.code yX0_isStill cX0_isStill 1 (some .boolean), Cond.fieldLink RX0 119 "RippleCounts$Wave" "onTheirWay" "I"]
def wsX0_letPass_r3 : List Cond := [Cond.fieldLink RX0 32 "RippleCounts$Counter" "hold" "I", Cond.methodLink RX0 97 yX3_add, Cond.instanceMethod yX3_add, Cond.selects RX3 yX3_add yX3_add, Cond.initialized RX3, Cond.code yX3_add cX3_add 5 none, Cond.fieldLink RX3 25 "RippleCounts$Readings" "size" "I", Cond.fieldLink RX3 9 "RippleCounts$Readings" "numbers" "[I", Cond.fieldLink RX3 15 "RippleCounts$Readings" "times" "[I", Cond.fieldLink RX3 18 "RippleCounts$Readings" "counts" "[I", Cond.fieldLink RX3 21 "RippleCounts$Readings" "latched" "[Z"]
def wsX0_letPass : List Cond := .code yX0_letPass cX0_letPass 4 (some .int) :: ((wsX0_letPass_r1 ++ (wsX0_letPass_r2 ++ wsX0_letPass_r3)) ++ wsX00 ++ wsX50 ++ wsX40 ++ wsX30)
def wsX0_clockAndPass_r1 : List Cond := [Cond.fieldLink RX0 12 "RippleCounts$Counter" "wave" "LRippleCounts$Wave;", Cond.fieldLink RX0 74 "RippleCounts$Wave" "time" "I", Cond.methodLink RX0 88 yX0_takeClock, Cond.instanceMethod yX0_takeClock, Cond.selects RX0 yX0_takeClock yX0_takeClock, Cond.initialized RX0, Cond.code yX0_takeClock cX0_takeClock 1 (some .int), Cond.fieldLink RX0 36 "RippleCounts$Counter" "lastClock" "I", Cond.fieldLink RX0 52 "RippleCounts$Counter" "clocks" "I", Cond.fieldLink RX0 77 "RippleCounts$Wave" "stages" "I", Cond.methodLink RX0 80 yX5_begin, Cond.instanceMethod yX5_begin, Cond.selects RX5 yX5_begin yX5_begin, Cond.initialized RX5, Cond.code yX5_begin cX5_begin 3 none, Cond.fieldLink RX5 22 "RippleCounts$Wave" "due" "[I", Cond.fieldLink RX5 31 "RippleCounts$Wave" "time" "I", Cond.fieldLink RX5 15 "RippleCounts$Wave" "delays" "[I", Cond.fieldLink RX5 37 "RippleCounts$Wave" "onTheirWay" "I", Cond.methodLink RX0 84 yX0_nanosecond, Cond.instanceMethod yX0_nanosecond, Cond.selects RX0 yX0_nanosecond yX0_nanosecond, Cond.code yX0_nanosecond cX0_nanosecond 2 (some .int), Cond.fieldLink RX0 39 "RippleCounts$Counter" "lastDone" "I"]
def wsX0_clockAndPass_r2 : List Cond := [Cond.fieldLink RX0 28 "RippleCounts$Counter" "sightings" "LRippleCounts$Sightings;", Cond.fieldLink RX0 94 "RippleCounts$Wave" "shows" "I", Cond.fieldLink RX0 55 "RippleCounts$Counter" "latchWaits" "Z", Cond.fieldLink RX0 21 "RippleCounts$Counter" "readings" "LRippleCounts$Readings;", Cond.methodLink RX0 109 yX5_turnDue, Cond.instanceMethod yX5_turnDue, Cond.selects RX5 yX5_turnDue yX5_turnDue, Cond.code yX5_turnDue cX5_turnDue 6 (some .int), Cond.fieldLink RX5 9 "RippleCounts$Wave" "stages" "I", Cond.methodLink RX5 46 yX5_turnOver, Cond.instanceMethod yX5_turnOver, Cond.selects RX5 yX5_turnOver yX5_turnOver, Cond.code yX5_turnOver cX5_turnOver 4 (some .int), Cond.fieldLink RX5 34 "RippleCounts$Wave" "shows" "I", Cond.fieldLink RX5 19 "RippleCounts$Wave" "done" "[I", Cond.methodLink RX5 50 yX5_begin, Cond.methodLink RX0 112 yX4_add, Cond.instanceMethod yX4_add, Cond.selects RX4 yX4_add yX4_add, Cond.initialized RX4, Cond.code yX4_add cX4_add 4 none, Cond.fieldLink RX4 15 "RippleCounts$Sightings" "often" "[I", Cond.fieldLink RX4 24 "RippleCounts$Sightings" "size" "I", Cond.fieldLink RX4 9 "RippleCounts$Sightings" "ranked" "[I"]
def wsX0_clockAndPass_r3 : List Cond := [Cond.fieldLink RX4 21 "RippleCounts$Sightings" "firstTimes" "[I", Cond.fieldLink RX4 18 "RippleCounts$Sightings" "flashes" "[I", Cond.methodLink RX0 115 yX0_isStill, Cond.instanceMethod yX0_isStill, Cond.selects RX0 yX0_isStill yX0_isStill, Cond.code yX0_isStill cX0_isStill 1 (some .boolean), Cond.fieldLink RX0 119 "RippleCounts$Wave" "onTheirWay" "I", Cond.fieldLink RX0 32 "RippleCounts$Counter" "hold" "I", Cond.methodLink RX0 97 yX3_add, Cond.instanceMethod yX3_add, Cond.selects RX3 yX3_add yX3_add, Cond.initialized RX3, Cond.code yX3_add cX3_add 5 none, Cond.fieldLink RX3 25 "RippleCounts$Readings" "size" "I", Cond.fieldLink RX3 9 "RippleCounts$Readings" "numbers" "[I", Cond.fieldLink RX3 15 "RippleCounts$Readings" "times" "[I", Cond.fieldLink RX3 18 "RippleCounts$Readings" "counts" "[I", Cond.fieldLink RX3 21 "RippleCounts$Readings" "latched" "[Z"]
def wsX0_clockAndPass : List Cond := .code yX0_clockAndPass cX0_clockAndPass 2 (some .int) :: ((wsX0_clockAndPass_r1 ++ (wsX0_clockAndPass_r2 ++ wsX0_clockAndPass_r3)) ++ wsX00 ++ wsX50 ++ wsX40 ++ wsX30)
def wsX0_readGate : List Cond := .code yX0_readGate cX0_readGate 1 (some .int) :: ([.fieldLink RX0 21 "RippleCounts$Counter" "readings" "LRippleCounts$Readings;", .fieldLink RX0 91 "RippleCounts$Readings" "size" "I", .fieldLink RX0 55 "RippleCounts$Counter" "latchWaits" "Z", .fieldLink RX0 12 "RippleCounts$Counter" "wave" "LRippleCounts$Wave;", .fieldLink RX0 94 "RippleCounts$Wave" "shows" "I", .fieldLink RX0 74 "RippleCounts$Wave" "time" "I", .fieldLink RX0 52 "RippleCounts$Counter" "clocks" "I", .methodLink RX0 97 yX3_add, .instanceMethod yX3_add, .selects RX3 yX3_add yX3_add, .initialized RX3, .code yX3_add cX3_add 5 none, .fieldLink RX3 25 "RippleCounts$Readings" "size" "I", .fieldLink RX3 9 "RippleCounts$Readings" "numbers" "[I", .fieldLink RX3 15 "RippleCounts$Readings" "times" "[I", .fieldLink RX3 18 "RippleCounts$Readings" "counts" "[I", .fieldLink RX3 21 "RippleCounts$Readings" "latched" "[Z"] ++ wsX00 ++ wsX30 ++ wsX50)
def wsX0_startLatch : List Cond := .code yX0_startLatch cX0_startLatch 1 (some .int) :: ([.fieldLink RX0 55 "RippleCounts$Counter" "latchWaits" "Z", .fieldLink RX0 21 "RippleCounts$Counter" "readings" "LRippleCounts$Readings;", .fieldLink RX0 91 "RippleCounts$Readings" "size" "I"] ++ wsX00 ++ wsX30)
def wsX0_stillFor : List Cond := .code yX0_stillFor cX0_stillFor 1 (some .int) :: ([.fieldLink RX0 39 "RippleCounts$Counter" "lastDone" "I", .fieldLink RX0 12 "RippleCounts$Counter" "wave" "LRippleCounts$Wave;", .fieldLink RX0 74 "RippleCounts$Wave" "time" "I"] ++ wsX00 ++ wsX50)
def wsX1_init_r1 : List Cond := [Cond.methodLink RX1 3 objectInit, Cond.instanceMethod objectInit, Cond.code objectInit ⟨#[0xb1]⟩ 1 none, Cond.classLink RX1 11 RX0, Cond.fieldLink RX1 13 "RippleCounts$History" "rows" "[LRippleCounts$Counter;", Cond.instantiable RX0 8, Cond.initialized RX0, Cond.instanceMethod yX0_init, Cond.code yX0_init cX0_init 1 none, Cond.methodLink RX0 3 objectInit, Cond.classLink RX0 9 RX5, Cond.instantiable RX5 7, Cond.initialized RX5, Cond.fieldLink RX0 12 "RippleCounts$Counter" "wave" "LRippleCounts$Wave;", Cond.classLink RX0 18 RX3, Cond.instantiable RX3 5, Cond.initialized RX3, Cond.fieldLink RX0 21 "RippleCounts$Counter" "readings" "LRippleCounts$Readings;", Cond.classLink RX0 25 RX4, Cond.instantiable RX4 5, Cond.initialized RX4, Cond.fieldLink RX0 28 "RippleCounts$Counter" "sightings" "LRippleCounts$Sightings;", Cond.fieldLink RX0 32 "RippleCounts$Counter" "hold" "I", Cond.fieldLink RX0 36 "RippleCounts$Counter" "lastClock" "I"]
def wsX1_init_r2 : List Cond := [Cond.fieldLink RX0 39 "RippleCounts$Counter" "lastDone" "I", Cond.methodLink RX0 11 yX5_init, Cond.instanceMethod yX5_init, Cond.code yX5_init cX5_init 1 none, Cond.methodLink RX5 3 objectInit, Cond.fieldLink RX5 9 "RippleCounts$Wave" "stages" "I", Cond.arrayClass .int, Cond.fieldLink RX5 15 "RippleCounts$Wave" "delays" "[I", Cond.fieldLink RX5 19 "RippleCounts$Wave" "done" "[I", Cond.fieldLink RX5 22 "RippleCounts$Wave" "due" "[I", Cond.methodLink RX5 25 yJ7_fill_53178, Cond.static yJ7_fill_53178, Cond.initialized RJ7, Cond.code yJ7_fill_53178 cJ7_fill_53178 4 none, Cond.instanceMethod yX3_init, Cond.code yX3_init cX3_init 1 none, Cond.methodLink RX3 3 objectInit, Cond.fieldLink RX3 9 "RippleCounts$Readings" "numbers" "[I", Cond.fieldLink RX3 15 "RippleCounts$Readings" "times" "[I", Cond.fieldLink RX3 18 "RippleCounts$Readings" "counts" "[I", Cond.arrayClass .boolean, Cond.fieldLink RX3 21 "RippleCounts$Readings" "latched" "[Z", Cond.instanceMethod yX4_init, Cond.code yX4_init cX4_init 1 none]
def wsX1_init_r3 : List Cond := [Cond.methodLink RX4 3 objectInit, Cond.fieldLink RX4 9 "RippleCounts$Sightings" "ranked" "[I", Cond.fieldLink RX4 15 "RippleCounts$Sightings" "often" "[I", Cond.fieldLink RX4 18 "RippleCounts$Sightings" "flashes" "[I", Cond.fieldLink RX4 21 "RippleCounts$Sightings" "firstTimes" "[I"]
def wsX1_init : List Cond := .code yX1_init cX1_init 2 none :: ((wsX1_init_r1 ++ (wsX1_init_r2 ++ wsX1_init_r3)) ++ wsX10 ++ wsX00 ++ wsX50 ++ wsX30 ++ wsX40)
def wsX1_spareRow : List Cond := .code yX1_spareRow cX1_spareRow 1 (some .int) :: ([.fieldLink RX1 30 "RippleCounts$History" "oldest" "I", .fieldLink RX1 26 "RippleCounts$History" "kept" "I"] ++ wsX10)
def wsX1_prepare_r1 : List Cond := [Cond.fieldLink RX1 13 "RippleCounts$History" "rows" "[LRippleCounts$Counter;", Cond.methodLink RX1 18 yX1_spareRow, Cond.instanceMethod yX1_spareRow, Cond.selects RX1 yX1_spareRow yX1_spareRow, Cond.initialized RX1, Cond.code yX1_spareRow cX1_spareRow 1 (some .int), Cond.fieldLink RX1 30 "RippleCounts$History" "oldest" "I", Cond.fieldLink RX1 26 "RippleCounts$History" "kept" "I", Cond.methodLink RX1 22 yX0_copyFrom, Cond.instanceMethod yX0_copyFrom, Cond.selects RX0 yX0_copyFrom yX0_copyFrom, Cond.initialized RX0, Cond.code yX0_copyFrom cX0_copyFrom 2 none, Cond.fieldLink RX0 12 "RippleCounts$Counter" "wave" "LRippleCounts$Wave;", Cond.fieldLink RX0 21 "RippleCounts$Counter" "readings" "LRippleCounts$Readings;", Cond.fieldLink RX0 28 "RippleCounts$Counter" "sightings" "LRippleCounts$Sightings;", Cond.fieldLink RX0 32 "RippleCounts$Counter" "hold" "I", Cond.fieldLink RX0 52 "RippleCounts$Counter" "clocks" "I", Cond.fieldLink RX0 36 "RippleCounts$Counter" "lastClock" "I", Cond.fieldLink RX0 39 "RippleCounts$Counter" "lastDone" "I", Cond.fieldLink RX0 55 "RippleCounts$Counter" "latchWaits" "Z", Cond.methodLink RX0 42 yX5_copyFrom, Cond.instanceMethod yX5_copyFrom, Cond.selects RX5 yX5_copyFrom yX5_copyFrom]
def wsX1_prepare_r2 : List Cond := [Cond.initialized RX5, Cond.code yX5_copyFrom cX5_copyFrom 2 none, Cond.fieldLink RX5 31 "RippleCounts$Wave" "time" "I", Cond.fieldLink RX5 9 "RippleCounts$Wave" "stages" "I", Cond.fieldLink RX5 34 "RippleCounts$Wave" "shows" "I", Cond.fieldLink RX5 37 "RippleCounts$Wave" "onTheirWay" "I", Cond.fieldLink RX5 15 "RippleCounts$Wave" "delays" "[I", Cond.methodLink RX5 40 arraycopyName, Cond.native arraycopyName, Cond.static arraycopyName, Cond.initialized "java/lang/System", Cond.fieldLink RX5 19 "RippleCounts$Wave" "done" "[I", Cond.fieldLink RX5 22 "RippleCounts$Wave" "due" "[I", Cond.methodLink RX0 46 yX3_copyFrom, Cond.instanceMethod yX3_copyFrom, Cond.selects RX3 yX3_copyFrom yX3_copyFrom, Cond.initialized RX3, Cond.code yX3_copyFrom cX3_copyFrom 2 none, Cond.fieldLink RX3 25 "RippleCounts$Readings" "size" "I", Cond.fieldLink RX3 9 "RippleCounts$Readings" "numbers" "[I", Cond.methodLink RX3 29 arraycopyName, Cond.fieldLink RX3 15 "RippleCounts$Readings" "times" "[I", Cond.fieldLink RX3 18 "RippleCounts$Readings" "counts" "[I", Cond.fieldLink RX3 21 "RippleCounts$Readings" "latched" "[Z"]
def wsX1_prepare_r3 : List Cond := [Cond.methodLink RX0 49 yX4_copyFrom, Cond.instanceMethod yX4_copyFrom, Cond.selects RX4 yX4_copyFrom yX4_copyFrom, Cond.initialized RX4, Cond.code yX4_copyFrom cX4_copyFrom 2 none, Cond.fieldLink RX4 24 "RippleCounts$Sightings" "size" "I", Cond.fieldLink RX4 9 "RippleCounts$Sightings" "ranked" "[I", Cond.methodLink RX4 28 arraycopyName, Cond.fieldLink RX4 15 "RippleCounts$Sightings" "often" "[I", Cond.fieldLink RX4 18 "RippleCounts$Sightings" "flashes" "[I", Cond.fieldLink RX4 21 "RippleCounts$Sightings" "firstTimes" "[I"]
def wsX1_prepare : List Cond := .code yX1_prepare cX1_prepare 2 none :: ((wsX1_prepare_r1 ++ (wsX1_prepare_r2 ++ wsX1_prepare_r3)) ++ wsX10 ++ wsX00 ++ wsX50 ++ wsX30 ++ wsX40)
def wsX1_settle : List Cond := .code yX1_settle cX1_settle 2 (some .int) :: ([.fieldLink RX1 26 "RippleCounts$History" "kept" "I", .fieldLink RX1 30 "RippleCounts$History" "oldest" "I"] ++ wsX10)
def wsX1_takeBack_r1 : List Cond := [Cond.fieldLink RX1 26 "RippleCounts$History" "kept" "I", Cond.fieldLink RX1 13 "RippleCounts$History" "rows" "[LRippleCounts$Counter;", Cond.methodLink RX1 18 yX1_spareRow, Cond.instanceMethod yX1_spareRow, Cond.selects RX1 yX1_spareRow yX1_spareRow, Cond.initialized RX1, Cond.code yX1_spareRow cX1_spareRow 1 (some .int), Cond.fieldLink RX1 30 "RippleCounts$History" "oldest" "I", Cond.methodLink RX1 22 yX0_copyFrom, Cond.instanceMethod yX0_copyFrom, Cond.selects RX0 yX0_copyFrom yX0_copyFrom, Cond.initialized RX0, Cond.code yX0_copyFrom cX0_copyFrom 2 none, Cond.fieldLink RX0 12 "RippleCounts$Counter" "wave" "LRippleCounts$Wave;", Cond.fieldLink RX0 21 "RippleCounts$Counter" "readings" "LRippleCounts$Readings;", Cond.fieldLink RX0 28 "RippleCounts$Counter" "sightings" "LRippleCounts$Sightings;", Cond.fieldLink RX0 32 "RippleCounts$Counter" "hold" "I", Cond.fieldLink RX0 52 "RippleCounts$Counter" "clocks" "I", Cond.fieldLink RX0 36 "RippleCounts$Counter" "lastClock" "I", Cond.fieldLink RX0 39 "RippleCounts$Counter" "lastDone" "I", Cond.fieldLink RX0 55 "RippleCounts$Counter" "latchWaits" "Z", Cond.methodLink RX0 42 yX5_copyFrom, Cond.instanceMethod yX5_copyFrom, Cond.selects RX5 yX5_copyFrom yX5_copyFrom]
def wsX1_takeBack_r2 : List Cond := [Cond.initialized RX5, Cond.code yX5_copyFrom cX5_copyFrom 2 none, Cond.fieldLink RX5 31 "RippleCounts$Wave" "time" "I", Cond.fieldLink RX5 9 "RippleCounts$Wave" "stages" "I", Cond.fieldLink RX5 34 "RippleCounts$Wave" "shows" "I", Cond.fieldLink RX5 37 "RippleCounts$Wave" "onTheirWay" "I", Cond.fieldLink RX5 15 "RippleCounts$Wave" "delays" "[I", Cond.methodLink RX5 40 arraycopyName, Cond.native arraycopyName, Cond.static arraycopyName, Cond.initialized "java/lang/System", Cond.fieldLink RX5 19 "RippleCounts$Wave" "done" "[I", Cond.fieldLink RX5 22 "RippleCounts$Wave" "due" "[I", Cond.methodLink RX0 46 yX3_copyFrom, Cond.instanceMethod yX3_copyFrom, Cond.selects RX3 yX3_copyFrom yX3_copyFrom, Cond.initialized RX3, Cond.code yX3_copyFrom cX3_copyFrom 2 none, Cond.fieldLink RX3 25 "RippleCounts$Readings" "size" "I", Cond.fieldLink RX3 9 "RippleCounts$Readings" "numbers" "[I", Cond.methodLink RX3 29 arraycopyName, Cond.fieldLink RX3 15 "RippleCounts$Readings" "times" "[I", Cond.fieldLink RX3 18 "RippleCounts$Readings" "counts" "[I", Cond.fieldLink RX3 21 "RippleCounts$Readings" "latched" "[Z"]
def wsX1_takeBack_r3 : List Cond := [Cond.methodLink RX0 49 yX4_copyFrom, Cond.instanceMethod yX4_copyFrom, Cond.selects RX4 yX4_copyFrom yX4_copyFrom, Cond.initialized RX4, Cond.code yX4_copyFrom cX4_copyFrom 2 none, Cond.fieldLink RX4 24 "RippleCounts$Sightings" "size" "I", Cond.fieldLink RX4 9 "RippleCounts$Sightings" "ranked" "[I", Cond.methodLink RX4 28 arraycopyName, Cond.fieldLink RX4 15 "RippleCounts$Sightings" "often" "[I", Cond.fieldLink RX4 18 "RippleCounts$Sightings" "flashes" "[I", Cond.fieldLink RX4 21 "RippleCounts$Sightings" "firstTimes" "[I"]
def wsX1_takeBack : List Cond := .code yX1_takeBack cX1_takeBack 2 (some .int) :: ((wsX1_takeBack_r1 ++ (wsX1_takeBack_r2 ++ wsX1_takeBack_r3)) ++ wsX10 ++ wsX00 ++ wsX50 ++ wsX30 ++ wsX40)
def wsX2_init : List Cond := .code yX2_init cX2_init 1 none :: ([.methodLink RX2 3 objectInit, .instanceMethod objectInit, .code objectInit ⟨#[0xb1]⟩ 1 none, .arrayClass .int, .fieldLink RX2 9 "RippleCounts$Pad" "signs" "[I"] ++ wsX20)
def wsX2_charactersIn : List Cond := .code yX2_charactersIn cX2_charactersIn 6 (some .int) :: ([.constantLong RX2 23 (255)])
def wsX2_append : List Cond := .code yX2_append cX2_append 5 (some .int) :: ([.fieldLink RX2 19 "RippleCounts$Pad" "length" "I", .fieldLink RX2 9 "RippleCounts$Pad" "signs" "[I", .constantLong RX2 23 (255), .methodLink RX2 15 yX2_charactersIn, .static yX2_charactersIn, .initialized RX2, .code yX2_charactersIn cX2_charactersIn 6 (some .int)] ++ wsX20)
def wsX2_clear : List Cond := .code yX2_clear cX2_clear 2 (some .int) :: ([.fieldLink RX2 19 "RippleCounts$Pad" "length" "I"] ++ wsX20)
def wsX2_afterLetter : List Cond := .code yX2_afterLetter cX2_afterLetter 1 (some .int) :: ([])
def wsX2_isDigit : List Cond := .code yX2_isDigit cX2_isDigit 1 (some .boolean) :: ([])
def wsX2_afterFirstDigit : List Cond := .code yX2_afterFirstDigit cX2_afterFirstDigit 1 (some .int) :: ([.methodLink RX2 33 yX2_isDigit, .static yX2_isDigit, .initialized RX2, .code yX2_isDigit cX2_isDigit 1 (some .boolean)])
def wsX2_afterOrder : List Cond := .code yX2_afterOrder cX2_afterOrder 1 (some .int) :: ([])
def wsX2_placeAfter : List Cond := .code yX2_placeAfter cX2_placeAfter 2 (some .int) :: ([.methodLink RX2 46 yX2_afterLetter, .static yX2_afterLetter, .initialized RX2, .code yX2_afterLetter cX2_afterLetter 1 (some .int), .methodLink RX2 33 yX2_isDigit, .static yX2_isDigit, .code yX2_isDigit cX2_isDigit 1 (some .boolean), .methodLink RX2 49 yX2_afterFirstDigit, .static yX2_afterFirstDigit, .code yX2_afterFirstDigit cX2_afterFirstDigit 1 (some .int), .methodLink RX2 52 yX2_afterOrder, .static yX2_afterOrder, .code yX2_afterOrder cX2_afterOrder 1 (some .int)])
def wsX2_firstFault : List Cond := .code yX2_firstFault cX2_firstFault 3 (some .int) :: ([.fieldLink RX2 19 "RippleCounts$Pad" "length" "I", .fieldLink RX2 9 "RippleCounts$Pad" "signs" "[I", .methodLink RX2 25 yX2_placeAfter, .static yX2_placeAfter, .initialized RX2, .code yX2_placeAfter cX2_placeAfter 2 (some .int), .methodLink RX2 46 yX2_afterLetter, .static yX2_afterLetter, .code yX2_afterLetter cX2_afterLetter 1 (some .int), .methodLink RX2 33 yX2_isDigit, .static yX2_isDigit, .code yX2_isDigit cX2_isDigit 1 (some .boolean), .methodLink RX2 49 yX2_afterFirstDigit, .static yX2_afterFirstDigit, .code yX2_afterFirstDigit cX2_afterFirstDigit 1 (some .int), .methodLink RX2 52 yX2_afterOrder, .static yX2_afterOrder, .code yX2_afterOrder cX2_afterOrder 1 (some .int)] ++ wsX20)
def wsX2_signAt : List Cond := .code yX2_signAt cX2_signAt 2 (some .int) :: ([.fieldLink RX2 19 "RippleCounts$Pad" "length" "I", .fieldLink RX2 9 "RippleCounts$Pad" "signs" "[I"] ++ wsX20)
def wsX2_isDigitAt : List Cond := .code yX2_isDigitAt cX2_isDigitAt 2 (some .boolean) :: ([.methodLink RX2 29 yX2_signAt, .instanceMethod yX2_signAt, .selects RX2 yX2_signAt yX2_signAt, .initialized RX2, .code yX2_signAt cX2_signAt 2 (some .int), .fieldLink RX2 19 "RippleCounts$Pad" "length" "I", .fieldLink RX2 9 "RippleCounts$Pad" "signs" "[I", .methodLink RX2 33 yX2_isDigit, .static yX2_isDigit, .code yX2_isDigit cX2_isDigit 1 (some .boolean)] ++ wsX20)
def wsX2_digitAt : List Cond := .code yX2_digitAt cX2_digitAt 2 (some .int) :: ([.methodLink RX2 29 yX2_signAt, .instanceMethod yX2_signAt, .selects RX2 yX2_signAt yX2_signAt, .initialized RX2, .code yX2_signAt cX2_signAt 2 (some .int), .fieldLink RX2 19 "RippleCounts$Pad" "length" "I", .fieldLink RX2 9 "RippleCounts$Pad" "signs" "[I"] ++ wsX20)
def wsX2_numberAt : List Cond := .code yX2_numberAt cX2_numberAt 4 (some .int) :: ([.methodLink RX2 37 yX2_isDigitAt, .instanceMethod yX2_isDigitAt, .selects RX2 yX2_isDigitAt yX2_isDigitAt, .initialized RX2, .code yX2_isDigitAt cX2_isDigitAt 2 (some .boolean), .methodLink RX2 29 yX2_signAt, .instanceMethod yX2_signAt, .selects RX2 yX2_signAt yX2_signAt, .code yX2_signAt cX2_signAt 2 (some .int), .fieldLink RX2 19 "RippleCounts$Pad" "length" "I", .fieldLink RX2 9 "RippleCounts$Pad" "signs" "[I", .methodLink RX2 33 yX2_isDigit, .static yX2_isDigit, .code yX2_isDigit cX2_isDigit 1 (some .boolean), .methodLink RX2 40 yX2_digitAt, .instanceMethod yX2_digitAt, .selects RX2 yX2_digitAt yX2_digitAt, .code yX2_digitAt cX2_digitAt 2 (some .int)] ++ wsX20)
def wsX2_ordersAt : List Cond := .code yX2_ordersAt cX2_ordersAt 2 (some .int) :: ([.methodLink RX2 29 yX2_signAt, .instanceMethod yX2_signAt, .selects RX2 yX2_signAt yX2_signAt, .initialized RX2, .code yX2_signAt cX2_signAt 2 (some .int), .fieldLink RX2 19 "RippleCounts$Pad" "length" "I", .fieldLink RX2 9 "RippleCounts$Pad" "signs" "[I", .methodLink RX2 37 yX2_isDigitAt, .instanceMethod yX2_isDigitAt, .selects RX2 yX2_isDigitAt yX2_isDigitAt, .code yX2_isDigitAt cX2_isDigitAt 2 (some .boolean), .methodLink RX2 33 yX2_isDigit, .static yX2_isDigit, .code yX2_isDigit cX2_isDigit 1 (some .boolean), .methodLink RX2 43 yX2_numberAt, .instanceMethod yX2_numberAt, .selects RX2 yX2_numberAt yX2_numberAt, .code yX2_numberAt cX2_numberAt 4 (some .int), .methodLink RX2 40 yX2_digitAt, .instanceMethod yX2_digitAt, .selects RX2 yX2_digitAt yX2_digitAt, .code yX2_digitAt cX2_digitAt 2 (some .int)] ++ wsX20)
def wsX3_isTrue : List Cond := .code yX3_isTrue cX3_isTrue 2 (some .boolean) :: ([.fieldLink RX3 9 "RippleCounts$Readings" "numbers" "[I", .fieldLink RX3 18 "RippleCounts$Readings" "counts" "[I"] ++ wsX30)
def wsX3_tell : List Cond := .code yX3_tell cX3_tell 3 (some .int) :: ([.fieldLink RX3 25 "RippleCounts$Readings" "size" "I", .fieldLink RX3 9 "RippleCounts$Readings" "numbers" "[I", .fieldLink RX3 15 "RippleCounts$Readings" "times" "[I", .fieldLink RX3 18 "RippleCounts$Readings" "counts" "[I", .fieldLink RX3 21 "RippleCounts$Readings" "latched" "[Z", .methodLink RX3 35 yX3_isTrue, .instanceMethod yX3_isTrue, .selects RX3 yX3_isTrue yX3_isTrue, .initialized RX3, .code yX3_isTrue cX3_isTrue 2 (some .boolean)] ++ wsX30)
def wsX3_trueOnes : List Cond := .code yX3_trueOnes cX3_trueOnes 3 (some .int) :: ([.fieldLink RX3 25 "RippleCounts$Readings" "size" "I", .methodLink RX3 35 yX3_isTrue, .instanceMethod yX3_isTrue, .selects RX3 yX3_isTrue yX3_isTrue, .initialized RX3, .code yX3_isTrue cX3_isTrue 2 (some .boolean), .fieldLink RX3 9 "RippleCounts$Readings" "numbers" "[I", .fieldLink RX3 18 "RippleCounts$Readings" "counts" "[I"] ++ wsX30)
def wsX4_tell : List Cond := .code yX4_tell cX4_tell 4 (some .int) :: ([.fieldLink RX4 24 "RippleCounts$Sightings" "size" "I", .fieldLink RX4 9 "RippleCounts$Sightings" "ranked" "[I", .fieldLink RX4 15 "RippleCounts$Sightings" "often" "[I", .fieldLink RX4 18 "RippleCounts$Sightings" "flashes" "[I", .fieldLink RX4 21 "RippleCounts$Sightings" "firstTimes" "[I"] ++ wsX40)
def wsX4_numbersWith : List Cond := .code yX4_numbersWith cX4_numbersWith 3 (some .int) :: ([])
def wsX4_allNumbers : List Cond := .code yX4_allNumbers cX4_allNumbers 1 (some .int) :: ([.fieldLink RX4 15 "RippleCounts$Sightings" "often" "[I", .methodLink RX4 40 yX4_numbersWith, .static yX4_numbersWith, .initialized RX4, .code yX4_numbersWith cX4_numbersWith 3 (some .int)] ++ wsX40)
def wsX4_flashedNumbers : List Cond := .code yX4_flashedNumbers cX4_flashedNumbers 1 (some .int) :: ([.fieldLink RX4 18 "RippleCounts$Sightings" "flashes" "[I", .methodLink RX4 40 yX4_numbersWith, .static yX4_numbersWith, .initialized RX4, .code yX4_numbersWith cX4_numbersWith 3 (some .int)] ++ wsX40)
def wsX5_output : List Cond := .code yX5_output cX5_output 2 (some .int) :: ([.fieldLink RX5 34 "RippleCounts$Wave" "shows" "I"] ++ wsX50)
def wsX5_nanosecond : List Cond := .code yX5_nanosecond cX5_nanosecond 1 none :: ([.fieldLink RX5 31 "RippleCounts$Wave" "time" "I", .methodLink RX5 54 yX5_turnDue, .instanceMethod yX5_turnDue, .selects RX5 yX5_turnDue yX5_turnDue, .initialized RX5, .code yX5_turnDue cX5_turnDue 6 (some .int), .fieldLink RX5 9 "RippleCounts$Wave" "stages" "I", .fieldLink RX5 22 "RippleCounts$Wave" "due" "[I", .fieldLink RX5 37 "RippleCounts$Wave" "onTheirWay" "I", .methodLink RX5 46 yX5_turnOver, .instanceMethod yX5_turnOver, .selects RX5 yX5_turnOver yX5_turnOver, .code yX5_turnOver cX5_turnOver 4 (some .int), .fieldLink RX5 34 "RippleCounts$Wave" "shows" "I", .fieldLink RX5 19 "RippleCounts$Wave" "done" "[I", .methodLink RX5 50 yX5_begin, .instanceMethod yX5_begin, .selects RX5 yX5_begin yX5_begin, .code yX5_begin cX5_begin 3 none, .fieldLink RX5 15 "RippleCounts$Wave" "delays" "[I"] ++ wsX50)
def wsX5_onTheirWayIn : List Cond := .code yX5_onTheirWayIn cX5_onTheirWayIn 4 (some .int) :: ([.fieldLink RX5 22 "RippleCounts$Wave" "due" "[I"] ++ wsX50)
def wsX5_untilNext : List Cond := .code yX5_untilNext cX5_untilNext 3 (some .int) :: ([.fieldLink RX5 22 "RippleCounts$Wave" "due" "[I", .fieldLink RX5 31 "RippleCounts$Wave" "time" "I"] ++ wsX50)
def wsX5_throughAll : List Cond := .code yX5_throughAll cX5_throughAll 3 (some .int) :: ([.fieldLink RX5 9 "RippleCounts$Wave" "stages" "I", .fieldLink RX5 15 "RippleCounts$Wave" "delays" "[I"] ++ wsX50)
def wsX5_readsTrue : List Cond := .code yX5_readsTrue cX5_readsTrue 6 (some .boolean) :: ([.fieldLink RX5 9 "RippleCounts$Wave" "stages" "I", .fieldLink RX5 15 "RippleCounts$Wave" "delays" "[I", .methodLink RX5 62 Lib.Math.max.name, .static Lib.Math.max.name, .initialized "java/lang/Math", .code Lib.Math.max.name Lib.Math.max.code 2 (some .int)] ++ wsX50)
def wsX5_wrongReadings : List Cond := .code yX5_wrongReadings cX5_wrongReadings 4 (some .int) :: ([.fieldLink RX5 9 "RippleCounts$Wave" "stages" "I", .methodLink RX5 58 yX5_readsTrue, .instanceMethod yX5_readsTrue, .selects RX5 yX5_readsTrue yX5_readsTrue, .initialized RX5, .code yX5_readsTrue cX5_readsTrue 6 (some .boolean), .fieldLink RX5 15 "RippleCounts$Wave" "delays" "[I", .methodLink RX5 62 Lib.Math.max.name, .static Lib.Math.max.name, .initialized "java/lang/Math", .code Lib.Math.max.name Lib.Math.max.code 2 (some .int)] ++ wsX50)
def wsX6_init_r1 : List Cond := [Cond.methodLink RX6 3 objectInit, Cond.instanceMethod objectInit, Cond.code objectInit ⟨#[0xb1]⟩ 1 none, Cond.classLink RX6 9 RX0, Cond.instantiable RX0 8, Cond.initialized RX0, Cond.fieldLink RX6 12 "RippleCounts" "now" "LRippleCounts$Counter;", Cond.classLink RX6 16 RX1, Cond.instantiable RX1 3, Cond.initialized RX1, Cond.fieldLink RX6 19 "RippleCounts" "history" "LRippleCounts$History;", Cond.fieldLink RX6 23 "RippleCounts" "slots" "[LRippleCounts$Counter;", Cond.arrayClass .boolean, Cond.fieldLink RX6 27 "RippleCounts" "slotUsed" "[Z", Cond.classLink RX6 31 RX5, Cond.instantiable RX5 7, Cond.initialized RX5, Cond.fieldLink RX6 34 "RippleCounts" "trial" "LRippleCounts$Wave;", Cond.classLink RX6 38 RX2, Cond.instantiable RX2 2, Cond.initialized RX2, Cond.fieldLink RX6 41 "RippleCounts" "pad" "LRippleCounts$Pad;", Cond.instanceMethod yX0_init, Cond.code yX0_init cX0_init 1 none]
def wsX6_init_r2 : List Cond := [Cond.methodLink RX0 3 objectInit, Cond.classLink RX0 9 RX5, Cond.fieldLink RX0 12 "RippleCounts$Counter" "wave" "LRippleCounts$Wave;", Cond.classLink RX0 18 RX3, Cond.instantiable RX3 5, Cond.initialized RX3, Cond.fieldLink RX0 21 "RippleCounts$Counter" "readings" "LRippleCounts$Readings;", Cond.classLink RX0 25 RX4, Cond.instantiable RX4 5, Cond.initialized RX4, Cond.fieldLink RX0 28 "RippleCounts$Counter" "sightings" "LRippleCounts$Sightings;", Cond.fieldLink RX0 32 "RippleCounts$Counter" "hold" "I", Cond.fieldLink RX0 36 "RippleCounts$Counter" "lastClock" "I", Cond.fieldLink RX0 39 "RippleCounts$Counter" "lastDone" "I", Cond.methodLink RX0 11 yX5_init, Cond.instanceMethod yX5_init, Cond.code yX5_init cX5_init 1 none, Cond.methodLink RX5 3 objectInit, Cond.fieldLink RX5 9 "RippleCounts$Wave" "stages" "I", Cond.arrayClass .int, Cond.fieldLink RX5 15 "RippleCounts$Wave" "delays" "[I", Cond.fieldLink RX5 19 "RippleCounts$Wave" "done" "[I", Cond.fieldLink RX5 22 "RippleCounts$Wave" "due" "[I", Cond.methodLink RX5 25 yJ7_fill_53178]
def wsX6_init_r3 : List Cond := [Cond.static yJ7_fill_53178, Cond.initialized RJ7, Cond.code yJ7_fill_53178 cJ7_fill_53178 4 none, Cond.instanceMethod yX3_init, Cond.code yX3_init cX3_init 1 none, Cond.methodLink RX3 3 objectInit, Cond.fieldLink RX3 9 "RippleCounts$Readings" "numbers" "[I", Cond.fieldLink RX3 15 "RippleCounts$Readings" "times" "[I", Cond.fieldLink RX3 18 "RippleCounts$Readings" "counts" "[I", Cond.fieldLink RX3 21 "RippleCounts$Readings" "latched" "[Z", Cond.instanceMethod yX4_init, Cond.code yX4_init cX4_init 1 none, Cond.methodLink RX4 3 objectInit, Cond.fieldLink RX4 9 "RippleCounts$Sightings" "ranked" "[I", Cond.fieldLink RX4 15 "RippleCounts$Sightings" "often" "[I", Cond.fieldLink RX4 18 "RippleCounts$Sightings" "flashes" "[I", Cond.fieldLink RX4 21 "RippleCounts$Sightings" "firstTimes" "[I", Cond.methodLink RX6 18 yX1_init, Cond.instanceMethod yX1_init, Cond.code yX1_init cX1_init 2 none, Cond.methodLink RX1 3 objectInit, Cond.classLink RX1 11 RX0, Cond.fieldLink RX1 13 "RippleCounts$History" "rows" "[LRippleCounts$Counter;", Cond.methodLink RX6 33 yX5_init]
def wsX6_init_r4 : List Cond := [Cond.instanceMethod yX2_init, Cond.code yX2_init cX2_init 1 none, Cond.methodLink RX2 3 objectInit, Cond.fieldLink RX2 9 "RippleCounts$Pad" "signs" "[I"]
def wsX6_init : List Cond := .code yX6_init cX6_init 2 none :: ((wsX6_init_r1 ++ (wsX6_init_r2 ++ (wsX6_init_r3 ++ wsX6_init_r4))) ++ wsX00 ++ wsX60 ++ wsX10 ++ wsX50 ++ wsX20 ++ wsX30 ++ wsX40)
def wsX6_set_r1 : List Cond := [Cond.fieldLink RX6 19 "RippleCounts" "history" "LRippleCounts$History;", Cond.fieldLink RX6 12 "RippleCounts" "now" "LRippleCounts$Counter;", Cond.methodLink RX6 45 yX1_prepare, Cond.instanceMethod yX1_prepare, Cond.selects RX1 yX1_prepare yX1_prepare, Cond.initialized RX1, Cond.code yX1_prepare cX1_prepare 2 none, Cond.fieldLink RX1 13 "RippleCounts$History" "rows" "[LRippleCounts$Counter;", Cond.methodLink RX1 18 yX1_spareRow, Cond.instanceMethod yX1_spareRow, Cond.selects RX1 yX1_spareRow yX1_spareRow, Cond.code yX1_spareRow cX1_spareRow 1 (some .int), Cond.fieldLink RX1 30 "RippleCounts$History" "oldest" "I", Cond.fieldLink RX1 26 "RippleCounts$History" "kept" "I", Cond.methodLink RX1 22 yX0_copyFrom, Cond.instanceMethod yX0_copyFrom, Cond.selects RX0 yX0_copyFrom yX0_copyFrom, Cond.initialized RX0, Cond.code yX0_copyFrom cX0_copyFrom 2 none, Cond.fieldLink RX0 12 "RippleCounts$Counter" "wave" "LRippleCounts$Wave;", Cond.fieldLink RX0 21 "RippleCounts$Counter" "readings" "LRippleCounts$Readings;", Cond.fieldLink RX0 28 "RippleCounts$Counter" "sightings" "LRippleCounts$Sightings;", Cond.fieldLink RX0 32 "RippleCounts$Counter" "hold" "I", Cond.fieldLink RX0 52 "RippleCounts$Counter" "clocks" "I"]
def wsX6_set_r2 : List Cond := [Cond.fieldLink RX0 36 "RippleCounts$Counter" "lastClock" "I", Cond.fieldLink RX0 39 "RippleCounts$Counter" "lastDone" "I", Cond.fieldLink RX0 55 "RippleCounts$Counter" "latchWaits" "Z", Cond.methodLink RX0 42 yX5_copyFrom, Cond.instanceMethod yX5_copyFrom, Cond.selects RX5 yX5_copyFrom yX5_copyFrom, Cond.initialized RX5, Cond.code yX5_copyFrom cX5_copyFrom 2 none, Cond.fieldLink RX5 31 "RippleCounts$Wave" "time" "I", Cond.fieldLink RX5 9 "RippleCounts$Wave" "stages" "I", Cond.fieldLink RX5 34 "RippleCounts$Wave" "shows" "I", Cond.fieldLink RX5 37 "RippleCounts$Wave" "onTheirWay" "I", Cond.fieldLink RX5 15 "RippleCounts$Wave" "delays" "[I", Cond.methodLink RX5 40 arraycopyName, Cond.native arraycopyName, Cond.static arraycopyName, Cond.initialized "java/lang/System", Cond.fieldLink RX5 19 "RippleCounts$Wave" "done" "[I", Cond.fieldLink RX5 22 "RippleCounts$Wave" "due" "[I", Cond.methodLink RX0 46 yX3_copyFrom, Cond.instanceMethod yX3_copyFrom, Cond.selects RX3 yX3_copyFrom yX3_copyFrom, Cond.initialized RX3, Cond.code yX3_copyFrom cX3_copyFrom 2 none]
def wsX6_set_r3 : List Cond := [Cond.fieldLink RX3 25 "RippleCounts$Readings" "size" "I", Cond.fieldLink RX3 9 "RippleCounts$Readings" "numbers" "[I", Cond.methodLink RX3 29 arraycopyName, Cond.fieldLink RX3 15 "RippleCounts$Readings" "times" "[I", Cond.fieldLink RX3 18 "RippleCounts$Readings" "counts" "[I", Cond.fieldLink RX3 21 "RippleCounts$Readings" "latched" "[Z", Cond.methodLink RX0 49 yX4_copyFrom, Cond.instanceMethod yX4_copyFrom, Cond.selects RX4 yX4_copyFrom yX4_copyFrom, Cond.initialized RX4, Cond.code yX4_copyFrom cX4_copyFrom 2 none, Cond.fieldLink RX4 24 "RippleCounts$Sightings" "size" "I", Cond.fieldLink RX4 9 "RippleCounts$Sightings" "ranked" "[I", Cond.methodLink RX4 28 arraycopyName, Cond.fieldLink RX4 15 "RippleCounts$Sightings" "often" "[I", Cond.fieldLink RX4 18 "RippleCounts$Sightings" "flashes" "[I", Cond.fieldLink RX4 21 "RippleCounts$Sightings" "firstTimes" "[I", Cond.methodLink RX6 49 yX0_change, Cond.instanceMethod yX0_change, Cond.selects RX0 yX0_change yX0_change, Cond.code yX0_change cX0_change 3 (some .int), Cond.methodLink RX0 59 yX0_changeStages, Cond.instanceMethod yX0_changeStages, Cond.selects RX0 yX0_changeStages yX0_changeStages]
def wsX6_set_r4 : List Cond := [Cond.code yX0_changeStages cX0_changeStages 3 (some .int), Cond.fieldLink RX0 77 "RippleCounts$Wave" "stages" "I", Cond.methodLink RX0 101 yX5_beginAnew, Cond.instanceMethod yX5_beginAnew, Cond.selects RX5 yX5_beginAnew yX5_beginAnew, Cond.code yX5_beginAnew cX5_beginAnew 2 none, Cond.methodLink RX5 25 yJ7_fill_53178, Cond.static yJ7_fill_53178, Cond.initialized RJ7, Cond.code yJ7_fill_53178 cJ7_fill_53178 4 none, Cond.methodLink RX0 105 yX3_clear, Cond.instanceMethod yX3_clear, Cond.selects RX3 yX3_clear yX3_clear, Cond.code yX3_clear cX3_clear 1 none, Cond.methodLink RX0 108 yX4_clear, Cond.instanceMethod yX4_clear, Cond.selects RX4 yX4_clear yX4_clear, Cond.code yX4_clear cX4_clear 1 none, Cond.methodLink RX4 34 yJ7_fill_53178, Cond.methodLink RX0 63 yX0_changeHold, Cond.instanceMethod yX0_changeHold, Cond.selects RX0 yX0_changeHold yX0_changeHold, Cond.code yX0_changeHold cX0_changeHold 3 (some .int), Cond.methodLink RX6 53 yX1_settle]
def wsX6_set_r5 : List Cond := [Cond.instanceMethod yX1_settle, Cond.selects RX1 yX1_settle yX1_settle, Cond.code yX1_settle cX1_settle 2 (some .int)]
def wsX6_set : List Cond := .code yX6_set cX6_set 3 (some .int) :: ((wsX6_set_r1 ++ (wsX6_set_r2 ++ (wsX6_set_r3 ++ (wsX6_set_r4 ++ wsX6_set_r5)))) ++ wsX60 ++ wsX10 ++ wsX00 ++ wsX50 ++ wsX30 ++ wsX40)
def wsX6_delay_r1 : List Cond := [Cond.fieldLink RX6 19 "RippleCounts" "history" "LRippleCounts$History;", Cond.fieldLink RX6 12 "RippleCounts" "now" "LRippleCounts$Counter;", Cond.methodLink RX6 45 yX1_prepare, Cond.instanceMethod yX1_prepare, Cond.selects RX1 yX1_prepare yX1_prepare, Cond.initialized RX1, Cond.code yX1_prepare cX1_prepare 2 none, Cond.fieldLink RX1 13 "RippleCounts$History" "rows" "[LRippleCounts$Counter;", Cond.methodLink RX1 18 yX1_spareRow, Cond.instanceMethod yX1_spareRow, Cond.selects RX1 yX1_spareRow yX1_spareRow, Cond.code yX1_spareRow cX1_spareRow 1 (some .int), Cond.fieldLink RX1 30 "RippleCounts$History" "oldest" "I", Cond.fieldLink RX1 26 "RippleCounts$History" "kept" "I", Cond.methodLink RX1 22 yX0_copyFrom, Cond.instanceMethod yX0_copyFrom, Cond.selects RX0 yX0_copyFrom yX0_copyFrom, Cond.initialized RX0, Cond.code yX0_copyFrom cX0_copyFrom 2 none, Cond.fieldLink RX0 12 "RippleCounts$Counter" "wave" "LRippleCounts$Wave;", Cond.fieldLink RX0 21 "RippleCounts$Counter" "readings" "LRippleCounts$Readings;", Cond.fieldLink RX0 28 "RippleCounts$Counter" "sightings" "LRippleCounts$Sightings;", Cond.fieldLink RX0 32 "RippleCounts$Counter" "hold" "I", Cond.fieldLink RX0 52 "RippleCounts$Counter" "clocks" "I"]
def wsX6_delay_r2 : List Cond := [Cond.fieldLink RX0 36 "RippleCounts$Counter" "lastClock" "I", Cond.fieldLink RX0 39 "RippleCounts$Counter" "lastDone" "I", Cond.fieldLink RX0 55 "RippleCounts$Counter" "latchWaits" "Z", Cond.methodLink RX0 42 yX5_copyFrom, Cond.instanceMethod yX5_copyFrom, Cond.selects RX5 yX5_copyFrom yX5_copyFrom, Cond.initialized RX5, Cond.code yX5_copyFrom cX5_copyFrom 2 none, Cond.fieldLink RX5 31 "RippleCounts$Wave" "time" "I", Cond.fieldLink RX5 9 "RippleCounts$Wave" "stages" "I", Cond.fieldLink RX5 34 "RippleCounts$Wave" "shows" "I", Cond.fieldLink RX5 37 "RippleCounts$Wave" "onTheirWay" "I", Cond.fieldLink RX5 15 "RippleCounts$Wave" "delays" "[I", Cond.methodLink RX5 40 arraycopyName, Cond.native arraycopyName, Cond.static arraycopyName, Cond.initialized "java/lang/System", Cond.fieldLink RX5 19 "RippleCounts$Wave" "done" "[I", Cond.fieldLink RX5 22 "RippleCounts$Wave" "due" "[I", Cond.methodLink RX0 46 yX3_copyFrom, Cond.instanceMethod yX3_copyFrom, Cond.selects RX3 yX3_copyFrom yX3_copyFrom, Cond.initialized RX3, Cond.code yX3_copyFrom cX3_copyFrom 2 none]
def wsX6_delay_r3 : List Cond := [Cond.fieldLink RX3 25 "RippleCounts$Readings" "size" "I", Cond.fieldLink RX3 9 "RippleCounts$Readings" "numbers" "[I", Cond.methodLink RX3 29 arraycopyName, Cond.fieldLink RX3 15 "RippleCounts$Readings" "times" "[I", Cond.fieldLink RX3 18 "RippleCounts$Readings" "counts" "[I", Cond.fieldLink RX3 21 "RippleCounts$Readings" "latched" "[Z", Cond.methodLink RX0 49 yX4_copyFrom, Cond.instanceMethod yX4_copyFrom, Cond.selects RX4 yX4_copyFrom yX4_copyFrom, Cond.initialized RX4, Cond.code yX4_copyFrom cX4_copyFrom 2 none, Cond.fieldLink RX4 24 "RippleCounts$Sightings" "size" "I", Cond.fieldLink RX4 9 "RippleCounts$Sightings" "ranked" "[I", Cond.methodLink RX4 28 arraycopyName, Cond.fieldLink RX4 15 "RippleCounts$Sightings" "often" "[I", Cond.fieldLink RX4 18 "RippleCounts$Sightings" "flashes" "[I", Cond.fieldLink RX4 21 "RippleCounts$Sightings" "firstTimes" "[I", Cond.methodLink RX6 57 yX0_changeDelay, Cond.instanceMethod yX0_changeDelay, Cond.selects RX0 yX0_changeDelay yX0_changeDelay, Cond.code yX0_changeDelay cX0_changeDelay 4 (some .int), Cond.fieldLink RX0 70 "RippleCounts$Wave" "delays" "[I", Cond.methodLink RX0 66 yX5_hasStage, Cond.instanceMethod yX5_hasStage]
def wsX6_delay_r4 : List Cond := [Cond.selects RX5 yX5_hasStage yX5_hasStage, Cond.code yX5_hasStage cX5_hasStage 2 (some .boolean), Cond.methodLink RX6 53 yX1_settle, Cond.instanceMethod yX1_settle, Cond.selects RX1 yX1_settle yX1_settle, Cond.code yX1_settle cX1_settle 2 (some .int)]
def wsX6_delay : List Cond := .code yX6_delay cX6_delay 3 (some .int) :: ((wsX6_delay_r1 ++ (wsX6_delay_r2 ++ (wsX6_delay_r3 ++ wsX6_delay_r4))) ++ wsX60 ++ wsX10 ++ wsX00 ++ wsX50 ++ wsX30 ++ wsX40)
def wsX6_clock_r1 : List Cond := [Cond.fieldLink RX6 19 "RippleCounts" "history" "LRippleCounts$History;", Cond.fieldLink RX6 12 "RippleCounts" "now" "LRippleCounts$Counter;", Cond.methodLink RX6 45 yX1_prepare, Cond.instanceMethod yX1_prepare, Cond.selects RX1 yX1_prepare yX1_prepare, Cond.initialized RX1, Cond.code yX1_prepare cX1_prepare 2 none, Cond.fieldLink RX1 13 "RippleCounts$History" "rows" "[LRippleCounts$Counter;", Cond.methodLink RX1 18 yX1_spareRow, Cond.instanceMethod yX1_spareRow, Cond.selects RX1 yX1_spareRow yX1_spareRow, Cond.code yX1_spareRow cX1_spareRow 1 (some .int), Cond.fieldLink RX1 30 "RippleCounts$History" "oldest" "I", Cond.fieldLink RX1 26 "RippleCounts$History" "kept" "I", Cond.methodLink RX1 22 yX0_copyFrom, Cond.instanceMethod yX0_copyFrom, Cond.selects RX0 yX0_copyFrom yX0_copyFrom, Cond.initialized RX0, Cond.code yX0_copyFrom cX0_copyFrom 2 none, Cond.fieldLink RX0 12 "RippleCounts$Counter" "wave" "LRippleCounts$Wave;", Cond.fieldLink RX0 21 "RippleCounts$Counter" "readings" "LRippleCounts$Readings;", Cond.fieldLink RX0 28 "RippleCounts$Counter" "sightings" "LRippleCounts$Sightings;", Cond.fieldLink RX0 32 "RippleCounts$Counter" "hold" "I", Cond.fieldLink RX0 52 "RippleCounts$Counter" "clocks" "I"]
def wsX6_clock_r2 : List Cond := [Cond.fieldLink RX0 36 "RippleCounts$Counter" "lastClock" "I", Cond.fieldLink RX0 39 "RippleCounts$Counter" "lastDone" "I", Cond.fieldLink RX0 55 "RippleCounts$Counter" "latchWaits" "Z", Cond.methodLink RX0 42 yX5_copyFrom, Cond.instanceMethod yX5_copyFrom, Cond.selects RX5 yX5_copyFrom yX5_copyFrom, Cond.initialized RX5, Cond.code yX5_copyFrom cX5_copyFrom 2 none, Cond.fieldLink RX5 31 "RippleCounts$Wave" "time" "I", Cond.fieldLink RX5 9 "RippleCounts$Wave" "stages" "I", Cond.fieldLink RX5 34 "RippleCounts$Wave" "shows" "I", Cond.fieldLink RX5 37 "RippleCounts$Wave" "onTheirWay" "I", Cond.fieldLink RX5 15 "RippleCounts$Wave" "delays" "[I", Cond.methodLink RX5 40 arraycopyName, Cond.native arraycopyName, Cond.static arraycopyName, Cond.initialized "java/lang/System", Cond.fieldLink RX5 19 "RippleCounts$Wave" "done" "[I", Cond.fieldLink RX5 22 "RippleCounts$Wave" "due" "[I", Cond.methodLink RX0 46 yX3_copyFrom, Cond.instanceMethod yX3_copyFrom, Cond.selects RX3 yX3_copyFrom yX3_copyFrom, Cond.initialized RX3, Cond.code yX3_copyFrom cX3_copyFrom 2 none]
def wsX6_clock_r3 : List Cond := [Cond.fieldLink RX3 25 "RippleCounts$Readings" "size" "I", Cond.fieldLink RX3 9 "RippleCounts$Readings" "numbers" "[I", Cond.methodLink RX3 29 arraycopyName, Cond.fieldLink RX3 15 "RippleCounts$Readings" "times" "[I", Cond.fieldLink RX3 18 "RippleCounts$Readings" "counts" "[I", Cond.fieldLink RX3 21 "RippleCounts$Readings" "latched" "[Z", Cond.methodLink RX0 49 yX4_copyFrom, Cond.instanceMethod yX4_copyFrom, Cond.selects RX4 yX4_copyFrom yX4_copyFrom, Cond.initialized RX4, Cond.code yX4_copyFrom cX4_copyFrom 2 none, Cond.fieldLink RX4 24 "RippleCounts$Sightings" "size" "I", Cond.fieldLink RX4 9 "RippleCounts$Sightings" "ranked" "[I", Cond.methodLink RX4 28 arraycopyName, Cond.fieldLink RX4 15 "RippleCounts$Sightings" "often" "[I", Cond.fieldLink RX4 18 "RippleCounts$Sightings" "flashes" "[I", Cond.fieldLink RX4 21 "RippleCounts$Sightings" "firstTimes" "[I", Cond.methodLink RX6 60 yX0_takeClock, Cond.instanceMethod yX0_takeClock, Cond.selects RX0 yX0_takeClock yX0_takeClock, Cond.code yX0_takeClock cX0_takeClock 1 (some .int), Cond.fieldLink RX0 74 "RippleCounts$Wave" "time" "I", Cond.fieldLink RX0 77 "RippleCounts$Wave" "stages" "I", Cond.methodLink RX0 80 yX5_begin]
def wsX6_clock_r4 : List Cond := [Cond.instanceMethod yX5_begin, Cond.selects RX5 yX5_begin yX5_begin, Cond.code yX5_begin cX5_begin 3 none, Cond.methodLink RX6 53 yX1_settle, Cond.instanceMethod yX1_settle, Cond.selects RX1 yX1_settle yX1_settle, Cond.code yX1_settle cX1_settle 2 (some .int)]
def wsX6_clock : List Cond := .code yX6_clock cX6_clock 1 (some .int) :: ((wsX6_clock_r1 ++ (wsX6_clock_r2 ++ (wsX6_clock_r3 ++ wsX6_clock_r4))) ++ wsX60 ++ wsX10 ++ wsX00 ++ wsX50 ++ wsX30 ++ wsX40)
def wsX6_pass_r1 : List Cond := [Cond.fieldLink RX6 19 "RippleCounts" "history" "LRippleCounts$History;", Cond.fieldLink RX6 12 "RippleCounts" "now" "LRippleCounts$Counter;", Cond.methodLink RX6 45 yX1_prepare, Cond.instanceMethod yX1_prepare, Cond.selects RX1 yX1_prepare yX1_prepare, Cond.initialized RX1, Cond.code yX1_prepare cX1_prepare 2 none, Cond.fieldLink RX1 13 "RippleCounts$History" "rows" "[LRippleCounts$Counter;", Cond.methodLink RX1 18 yX1_spareRow, Cond.instanceMethod yX1_spareRow, Cond.selects RX1 yX1_spareRow yX1_spareRow, Cond.code yX1_spareRow cX1_spareRow 1 (some .int), Cond.fieldLink RX1 30 "RippleCounts$History" "oldest" "I", Cond.fieldLink RX1 26 "RippleCounts$History" "kept" "I", Cond.methodLink RX1 22 yX0_copyFrom, Cond.instanceMethod yX0_copyFrom, Cond.selects RX0 yX0_copyFrom yX0_copyFrom, Cond.initialized RX0, Cond.code yX0_copyFrom cX0_copyFrom 2 none, Cond.fieldLink RX0 12 "RippleCounts$Counter" "wave" "LRippleCounts$Wave;", Cond.fieldLink RX0 21 "RippleCounts$Counter" "readings" "LRippleCounts$Readings;", Cond.fieldLink RX0 28 "RippleCounts$Counter" "sightings" "LRippleCounts$Sightings;", Cond.fieldLink RX0 32 "RippleCounts$Counter" "hold" "I", Cond.fieldLink RX0 52 "RippleCounts$Counter" "clocks" "I"]
def wsX6_pass_r2 : List Cond := [Cond.fieldLink RX0 36 "RippleCounts$Counter" "lastClock" "I", Cond.fieldLink RX0 39 "RippleCounts$Counter" "lastDone" "I", Cond.fieldLink RX0 55 "RippleCounts$Counter" "latchWaits" "Z", Cond.methodLink RX0 42 yX5_copyFrom, Cond.instanceMethod yX5_copyFrom, Cond.selects RX5 yX5_copyFrom yX5_copyFrom, Cond.initialized RX5, Cond.code yX5_copyFrom cX5_copyFrom 2 none, Cond.fieldLink RX5 31 "RippleCounts$Wave" "time" "I", Cond.fieldLink RX5 9 "RippleCounts$Wave" "stages" "I", Cond.fieldLink RX5 34 "RippleCounts$Wave" "shows" "I", Cond.fieldLink RX5 37 "RippleCounts$Wave" "onTheirWay" "I", Cond.fieldLink RX5 15 "RippleCounts$Wave" "delays" "[I", Cond.methodLink RX5 40 arraycopyName, Cond.native arraycopyName, Cond.static arraycopyName, Cond.initialized "java/lang/System", Cond.fieldLink RX5 19 "RippleCounts$Wave" "done" "[I", Cond.fieldLink RX5 22 "RippleCounts$Wave" "due" "[I", Cond.methodLink RX0 46 yX3_copyFrom, Cond.instanceMethod yX3_copyFrom, Cond.selects RX3 yX3_copyFrom yX3_copyFrom, Cond.initialized RX3, Cond.code yX3_copyFrom cX3_copyFrom 2 none]
def wsX6_pass_r3 : List Cond := [Cond.fieldLink RX3 25 "RippleCounts$Readings" "size" "I", Cond.fieldLink RX3 9 "RippleCounts$Readings" "numbers" "[I", Cond.methodLink RX3 29 arraycopyName, Cond.fieldLink RX3 15 "RippleCounts$Readings" "times" "[I", Cond.fieldLink RX3 18 "RippleCounts$Readings" "counts" "[I", Cond.fieldLink RX3 21 "RippleCounts$Readings" "latched" "[Z", Cond.methodLink RX0 49 yX4_copyFrom, Cond.instanceMethod yX4_copyFrom, Cond.selects RX4 yX4_copyFrom yX4_copyFrom, Cond.initialized RX4, Cond.code yX4_copyFrom cX4_copyFrom 2 none, Cond.fieldLink RX4 24 "RippleCounts$Sightings" "size" "I", Cond.fieldLink RX4 9 "RippleCounts$Sightings" "ranked" "[I", Cond.methodLink RX4 28 arraycopyName, Cond.fieldLink RX4 15 "RippleCounts$Sightings" "often" "[I", Cond.fieldLink RX4 18 "RippleCounts$Sightings" "flashes" "[I", Cond.fieldLink RX4 21 "RippleCounts$Sightings" "firstTimes" "[I", Cond.methodLink RX6 64 yX0_letPass, Cond.instanceMethod yX0_letPass, Cond.selects RX0 yX0_letPass yX0_letPass, Cond.code yX0_letPass cX0_letPass 4 (some .int), Cond.fieldLink RX0 74 "RippleCounts$Wave" "time" "I", Cond.methodLink RX0 84 yX0_nanosecond, Cond.instanceMethod yX0_nanosecond]
def wsX6_pass_r4 : List Cond := [Cond.selects RX0 yX0_nanosecond yX0_nanosecond, Cond.code yX0_nanosecond cX0_nanosecond 2 (some .int), Cond.fieldLink RX0 94 "RippleCounts$Wave" "shows" "I", Cond.methodLink RX0 109 yX5_turnDue, Cond.instanceMethod yX5_turnDue, Cond.selects RX5 yX5_turnDue yX5_turnDue, Cond.code yX5_turnDue cX5_turnDue 6 (some .int), Cond.methodLink RX5 46 yX5_turnOver, Cond.instanceMethod yX5_turnOver, Cond.selects RX5 yX5_turnOver yX5_turnOver, Cond.code yX5_turnOver cX5_turnOver 4 (some .int), Cond.methodLink RX5 50 yX5_begin, Cond.instanceMethod yX5_begin, Cond.selects RX5 yX5_begin yX5_begin, Cond.code yX5_begin cX5_begin 3 none, Cond.methodLink RX0 112 yX4_add, Cond.instanceMethod yX4_add, Cond.selects RX4 yX4_add yX4_add, Cond.code yX4_add cX4_add 4 none, Cond.methodLink RX0 115 yX0_isStill, Cond.instanceMethod yX0_isStill, Cond.selects RX0 yX0_isStill yX0_isStill, Cond.code yX0_isStill cX0_isStill 1 (some .boolean), Cond.fieldLink RX0 119 "RippleCounts$Wave" "onTheirWay" "I"]
def wsX6_pass_r5 : List Cond := [Cond.methodLink RX0 97 yX3_add, Cond.instanceMethod yX3_add, Cond.selects RX3 yX3_add yX3_add, Cond.code yX3_add cX3_add 5 none, Cond.methodLink RX6 53 yX1_settle, Cond.instanceMethod yX1_settle, Cond.selects RX1 yX1_settle yX1_settle, Cond.code yX1_settle cX1_settle 2 (some .int)]
def wsX6_pass : List Cond := .code yX6_pass cX6_pass 2 (some .int) :: ((wsX6_pass_r1 ++ (wsX6_pass_r2 ++ (wsX6_pass_r3 ++ (wsX6_pass_r4 ++ wsX6_pass_r5)))) ++ wsX60 ++ wsX10 ++ wsX00 ++ wsX50 ++ wsX30 ++ wsX40)
def wsX6_read_r1 : List Cond := [Cond.fieldLink RX6 19 "RippleCounts" "history" "LRippleCounts$History;", Cond.fieldLink RX6 12 "RippleCounts" "now" "LRippleCounts$Counter;", Cond.methodLink RX6 45 yX1_prepare, Cond.instanceMethod yX1_prepare, Cond.selects RX1 yX1_prepare yX1_prepare, Cond.initialized RX1, Cond.code yX1_prepare cX1_prepare 2 none, Cond.fieldLink RX1 13 "RippleCounts$History" "rows" "[LRippleCounts$Counter;", Cond.methodLink RX1 18 yX1_spareRow, Cond.instanceMethod yX1_spareRow, Cond.selects RX1 yX1_spareRow yX1_spareRow, Cond.code yX1_spareRow cX1_spareRow 1 (some .int), Cond.fieldLink RX1 30 "RippleCounts$History" "oldest" "I", Cond.fieldLink RX1 26 "RippleCounts$History" "kept" "I", Cond.methodLink RX1 22 yX0_copyFrom, Cond.instanceMethod yX0_copyFrom, Cond.selects RX0 yX0_copyFrom yX0_copyFrom, Cond.initialized RX0, Cond.code yX0_copyFrom cX0_copyFrom 2 none, Cond.fieldLink RX0 12 "RippleCounts$Counter" "wave" "LRippleCounts$Wave;", Cond.fieldLink RX0 21 "RippleCounts$Counter" "readings" "LRippleCounts$Readings;", Cond.fieldLink RX0 28 "RippleCounts$Counter" "sightings" "LRippleCounts$Sightings;", Cond.fieldLink RX0 32 "RippleCounts$Counter" "hold" "I", Cond.fieldLink RX0 52 "RippleCounts$Counter" "clocks" "I"]
def wsX6_read_r2 : List Cond := [Cond.fieldLink RX0 36 "RippleCounts$Counter" "lastClock" "I", Cond.fieldLink RX0 39 "RippleCounts$Counter" "lastDone" "I", Cond.fieldLink RX0 55 "RippleCounts$Counter" "latchWaits" "Z", Cond.methodLink RX0 42 yX5_copyFrom, Cond.instanceMethod yX5_copyFrom, Cond.selects RX5 yX5_copyFrom yX5_copyFrom, Cond.initialized RX5, Cond.code yX5_copyFrom cX5_copyFrom 2 none, Cond.fieldLink RX5 31 "RippleCounts$Wave" "time" "I", Cond.fieldLink RX5 9 "RippleCounts$Wave" "stages" "I", Cond.fieldLink RX5 34 "RippleCounts$Wave" "shows" "I", Cond.fieldLink RX5 37 "RippleCounts$Wave" "onTheirWay" "I", Cond.fieldLink RX5 15 "RippleCounts$Wave" "delays" "[I", Cond.methodLink RX5 40 arraycopyName, Cond.native arraycopyName, Cond.static arraycopyName, Cond.initialized "java/lang/System", Cond.fieldLink RX5 19 "RippleCounts$Wave" "done" "[I", Cond.fieldLink RX5 22 "RippleCounts$Wave" "due" "[I", Cond.methodLink RX0 46 yX3_copyFrom, Cond.instanceMethod yX3_copyFrom, Cond.selects RX3 yX3_copyFrom yX3_copyFrom, Cond.initialized RX3, Cond.code yX3_copyFrom cX3_copyFrom 2 none]
def wsX6_read_r3 : List Cond := [Cond.fieldLink RX3 25 "RippleCounts$Readings" "size" "I", Cond.fieldLink RX3 9 "RippleCounts$Readings" "numbers" "[I", Cond.methodLink RX3 29 arraycopyName, Cond.fieldLink RX3 15 "RippleCounts$Readings" "times" "[I", Cond.fieldLink RX3 18 "RippleCounts$Readings" "counts" "[I", Cond.fieldLink RX3 21 "RippleCounts$Readings" "latched" "[Z", Cond.methodLink RX0 49 yX4_copyFrom, Cond.instanceMethod yX4_copyFrom, Cond.selects RX4 yX4_copyFrom yX4_copyFrom, Cond.initialized RX4, Cond.code yX4_copyFrom cX4_copyFrom 2 none, Cond.fieldLink RX4 24 "RippleCounts$Sightings" "size" "I", Cond.fieldLink RX4 9 "RippleCounts$Sightings" "ranked" "[I", Cond.methodLink RX4 28 arraycopyName, Cond.fieldLink RX4 15 "RippleCounts$Sightings" "often" "[I", Cond.fieldLink RX4 18 "RippleCounts$Sightings" "flashes" "[I", Cond.fieldLink RX4 21 "RippleCounts$Sightings" "firstTimes" "[I", Cond.methodLink RX6 67 yX0_readGate, Cond.instanceMethod yX0_readGate, Cond.selects RX0 yX0_readGate yX0_readGate, Cond.code yX0_readGate cX0_readGate 1 (some .int), Cond.fieldLink RX0 91 "RippleCounts$Readings" "size" "I", Cond.fieldLink RX0 94 "RippleCounts$Wave" "shows" "I", Cond.fieldLink RX0 74 "RippleCounts$Wave" "time" "I"]
def wsX6_read_r4 : List Cond := [Cond.methodLink RX0 97 yX3_add, Cond.instanceMethod yX3_add, Cond.selects RX3 yX3_add yX3_add, Cond.code yX3_add cX3_add 5 none, Cond.methodLink RX6 53 yX1_settle, Cond.instanceMethod yX1_settle, Cond.selects RX1 yX1_settle yX1_settle, Cond.code yX1_settle cX1_settle 2 (some .int)]
def wsX6_read : List Cond := .code yX6_read cX6_read 1 (some .int) :: ((wsX6_read_r1 ++ (wsX6_read_r2 ++ (wsX6_read_r3 ++ wsX6_read_r4))) ++ wsX60 ++ wsX10 ++ wsX00 ++ wsX50 ++ wsX30 ++ wsX40)
def wsX6_latch_r1 : List Cond := [Cond.fieldLink RX6 19 "RippleCounts" "history" "LRippleCounts$History;", Cond.fieldLink RX6 12 "RippleCounts" "now" "LRippleCounts$Counter;", Cond.methodLink RX6 45 yX1_prepare, Cond.instanceMethod yX1_prepare, Cond.selects RX1 yX1_prepare yX1_prepare, Cond.initialized RX1, Cond.code yX1_prepare cX1_prepare 2 none, Cond.fieldLink RX1 13 "RippleCounts$History" "rows" "[LRippleCounts$Counter;", Cond.methodLink RX1 18 yX1_spareRow, Cond.instanceMethod yX1_spareRow, Cond.selects RX1 yX1_spareRow yX1_spareRow, Cond.code yX1_spareRow cX1_spareRow 1 (some .int), Cond.fieldLink RX1 30 "RippleCounts$History" "oldest" "I", Cond.fieldLink RX1 26 "RippleCounts$History" "kept" "I", Cond.methodLink RX1 22 yX0_copyFrom, Cond.instanceMethod yX0_copyFrom, Cond.selects RX0 yX0_copyFrom yX0_copyFrom, Cond.initialized RX0, Cond.code yX0_copyFrom cX0_copyFrom 2 none, Cond.fieldLink RX0 12 "RippleCounts$Counter" "wave" "LRippleCounts$Wave;", Cond.fieldLink RX0 21 "RippleCounts$Counter" "readings" "LRippleCounts$Readings;", Cond.fieldLink RX0 28 "RippleCounts$Counter" "sightings" "LRippleCounts$Sightings;", Cond.fieldLink RX0 32 "RippleCounts$Counter" "hold" "I", Cond.fieldLink RX0 52 "RippleCounts$Counter" "clocks" "I"]
def wsX6_latch_r2 : List Cond := [Cond.fieldLink RX0 36 "RippleCounts$Counter" "lastClock" "I", Cond.fieldLink RX0 39 "RippleCounts$Counter" "lastDone" "I", Cond.fieldLink RX0 55 "RippleCounts$Counter" "latchWaits" "Z", Cond.methodLink RX0 42 yX5_copyFrom, Cond.instanceMethod yX5_copyFrom, Cond.selects RX5 yX5_copyFrom yX5_copyFrom, Cond.initialized RX5, Cond.code yX5_copyFrom cX5_copyFrom 2 none, Cond.fieldLink RX5 31 "RippleCounts$Wave" "time" "I", Cond.fieldLink RX5 9 "RippleCounts$Wave" "stages" "I", Cond.fieldLink RX5 34 "RippleCounts$Wave" "shows" "I", Cond.fieldLink RX5 37 "RippleCounts$Wave" "onTheirWay" "I", Cond.fieldLink RX5 15 "RippleCounts$Wave" "delays" "[I", Cond.methodLink RX5 40 arraycopyName, Cond.native arraycopyName, Cond.static arraycopyName, Cond.initialized "java/lang/System", Cond.fieldLink RX5 19 "RippleCounts$Wave" "done" "[I", Cond.fieldLink RX5 22 "RippleCounts$Wave" "due" "[I", Cond.methodLink RX0 46 yX3_copyFrom, Cond.instanceMethod yX3_copyFrom, Cond.selects RX3 yX3_copyFrom yX3_copyFrom, Cond.initialized RX3, Cond.code yX3_copyFrom cX3_copyFrom 2 none]
def wsX6_latch_r3 : List Cond := [Cond.fieldLink RX3 25 "RippleCounts$Readings" "size" "I", Cond.fieldLink RX3 9 "RippleCounts$Readings" "numbers" "[I", Cond.methodLink RX3 29 arraycopyName, Cond.fieldLink RX3 15 "RippleCounts$Readings" "times" "[I", Cond.fieldLink RX3 18 "RippleCounts$Readings" "counts" "[I", Cond.fieldLink RX3 21 "RippleCounts$Readings" "latched" "[Z", Cond.methodLink RX0 49 yX4_copyFrom, Cond.instanceMethod yX4_copyFrom, Cond.selects RX4 yX4_copyFrom yX4_copyFrom, Cond.initialized RX4, Cond.code yX4_copyFrom cX4_copyFrom 2 none, Cond.fieldLink RX4 24 "RippleCounts$Sightings" "size" "I", Cond.fieldLink RX4 9 "RippleCounts$Sightings" "ranked" "[I", Cond.methodLink RX4 28 arraycopyName, Cond.fieldLink RX4 15 "RippleCounts$Sightings" "often" "[I", Cond.fieldLink RX4 18 "RippleCounts$Sightings" "flashes" "[I", Cond.fieldLink RX4 21 "RippleCounts$Sightings" "firstTimes" "[I", Cond.methodLink RX6 70 yX0_startLatch, Cond.instanceMethod yX0_startLatch, Cond.selects RX0 yX0_startLatch yX0_startLatch, Cond.code yX0_startLatch cX0_startLatch 1 (some .int), Cond.fieldLink RX0 91 "RippleCounts$Readings" "size" "I", Cond.methodLink RX6 53 yX1_settle, Cond.instanceMethod yX1_settle]
def wsX6_latch_r4 : List Cond := [Cond.selects RX1 yX1_settle yX1_settle, Cond.code yX1_settle cX1_settle 2 (some .int)]
def wsX6_latch : List Cond := .code yX6_latch cX6_latch 1 (some .int) :: ((wsX6_latch_r1 ++ (wsX6_latch_r2 ++ (wsX6_latch_r3 ++ wsX6_latch_r4))) ++ wsX60 ++ wsX10 ++ wsX00 ++ wsX50 ++ wsX30 ++ wsX40)
def wsX6_of_r1 : List Cond := [Cond.fieldLink RX6 12 "RippleCounts" "now" "LRippleCounts$Counter;", Cond.fieldLink RX6 73 "RippleCounts$Counter" "wave" "LRippleCounts$Wave;", Cond.fieldLink RX6 80 "RippleCounts$Wave" "delays" "[I", Cond.fieldLink RX6 93 "RippleCounts$Wave" "done" "[I", Cond.methodLink RX6 76 yX5_hasStage, Cond.instanceMethod yX5_hasStage, Cond.selects RX5 yX5_hasStage yX5_hasStage, Cond.initialized RX5, Cond.code yX5_hasStage cX5_hasStage 2 (some .boolean), Cond.fieldLink RX5 9 "RippleCounts$Wave" "stages" "I", Cond.methodLink RX6 84 yX5_output, Cond.instanceMethod yX5_output, Cond.selects RX5 yX5_output yX5_output, Cond.code yX5_output cX5_output 2 (some .int), Cond.fieldLink RX5 34 "RippleCounts$Wave" "shows" "I", Cond.methodLink RX6 87 yX5_onTheirWayIn, Cond.instanceMethod yX5_onTheirWayIn, Cond.selects RX5 yX5_onTheirWayIn yX5_onTheirWayIn, Cond.code yX5_onTheirWayIn cX5_onTheirWayIn 4 (some .int), Cond.fieldLink RX5 22 "RippleCounts$Wave" "due" "[I", Cond.methodLink RX6 90 yX5_untilNext, Cond.instanceMethod yX5_untilNext, Cond.selects RX5 yX5_untilNext yX5_untilNext, Cond.code yX5_untilNext cX5_untilNext 3 (some .int)]
def wsX6_of_r2 : List Cond := [Cond.fieldLink RX5 31 "RippleCounts$Wave" "time" "I"]
def wsX6_of : List Cond := .code yX6_of cX6_of 4 (some .int) :: ((wsX6_of_r1 ++ wsX6_of_r2) ++ wsX60 ++ wsX00 ++ wsX50)
def wsX6_reading : List Cond := .code yX6_reading cX6_reading 3 (some .int) :: ([.fieldLink RX6 12 "RippleCounts" "now" "LRippleCounts$Counter;", .fieldLink RX6 96 "RippleCounts$Counter" "readings" "LRippleCounts$Readings;", .methodLink RX6 100 yX3_tell, .instanceMethod yX3_tell, .selects RX3 yX3_tell yX3_tell, .initialized RX3, .code yX3_tell cX3_tell 3 (some .int), .fieldLink RX3 25 "RippleCounts$Readings" "size" "I", .fieldLink RX3 9 "RippleCounts$Readings" "numbers" "[I", .fieldLink RX3 15 "RippleCounts$Readings" "times" "[I", .fieldLink RX3 18 "RippleCounts$Readings" "counts" "[I", .fieldLink RX3 21 "RippleCounts$Readings" "latched" "[Z", .methodLink RX3 35 yX3_isTrue, .instanceMethod yX3_isTrue, .selects RX3 yX3_isTrue yX3_isTrue, .code yX3_isTrue cX3_isTrue 2 (some .boolean)] ++ wsX60 ++ wsX00 ++ wsX30)
def wsX6_seen : List Cond := .code yX6_seen cX6_seen 3 (some .int) :: ([.fieldLink RX6 12 "RippleCounts" "now" "LRippleCounts$Counter;", .fieldLink RX6 105 "RippleCounts$Counter" "sightings" "LRippleCounts$Sightings;", .methodLink RX6 109 yX4_tell, .instanceMethod yX4_tell, .selects RX4 yX4_tell yX4_tell, .initialized RX4, .code yX4_tell cX4_tell 4 (some .int), .fieldLink RX4 24 "RippleCounts$Sightings" "size" "I", .fieldLink RX4 9 "RippleCounts$Sightings" "ranked" "[I", .fieldLink RX4 15 "RippleCounts$Sightings" "often" "[I", .fieldLink RX4 18 "RippleCounts$Sightings" "flashes" "[I", .fieldLink RX4 21 "RippleCounts$Sightings" "firstTimes" "[I"] ++ wsX60 ++ wsX00 ++ wsX40)
def wsX6_count_r1 : List Cond := [Cond.fieldLink RX6 12 "RippleCounts" "now" "LRippleCounts$Counter;", Cond.fieldLink RX6 73 "RippleCounts$Counter" "wave" "LRippleCounts$Wave;", Cond.fieldLink RX6 112 "RippleCounts$Wave" "time" "I", Cond.fieldLink RX6 116 "RippleCounts$Wave" "shows" "I", Cond.fieldLink RX6 119 "RippleCounts$Counter" "clocks" "I", Cond.fieldLink RX6 122 "RippleCounts$Wave" "onTheirWay" "I", Cond.fieldLink RX6 96 "RippleCounts$Counter" "readings" "LRippleCounts$Readings;", Cond.fieldLink RX6 125 "RippleCounts$Readings" "size" "I", Cond.fieldLink RX6 105 "RippleCounts$Counter" "sightings" "LRippleCounts$Sightings;", Cond.fieldLink RX6 140 "RippleCounts$Counter" "latchWaits" "Z", Cond.fieldLink RX6 144 "RippleCounts$Wave" "stages" "I", Cond.fieldLink RX6 147 "RippleCounts$Counter" "hold" "I", Cond.fieldLink RX6 41 "RippleCounts" "pad" "LRippleCounts$Pad;", Cond.fieldLink RX6 150 "RippleCounts$Pad" "length" "I", Cond.fieldLink RX6 19 "RippleCounts" "history" "LRippleCounts$History;", Cond.fieldLink RX6 153 "RippleCounts$History" "kept" "I", Cond.methodLink RX6 128 yX3_trueOnes, Cond.instanceMethod yX3_trueOnes, Cond.selects RX3 yX3_trueOnes yX3_trueOnes, Cond.initialized RX3, Cond.code yX3_trueOnes cX3_trueOnes 3 (some .int), Cond.fieldLink RX3 25 "RippleCounts$Readings" "size" "I", Cond.methodLink RX3 35 yX3_isTrue, Cond.instanceMethod yX3_isTrue]
def wsX6_count_r2 : List Cond := [Cond.selects RX3 yX3_isTrue yX3_isTrue, Cond.code yX3_isTrue cX3_isTrue 2 (some .boolean), Cond.fieldLink RX3 9 "RippleCounts$Readings" "numbers" "[I", Cond.fieldLink RX3 18 "RippleCounts$Readings" "counts" "[I", Cond.methodLink RX6 131 yX4_allNumbers, Cond.instanceMethod yX4_allNumbers, Cond.selects RX4 yX4_allNumbers yX4_allNumbers, Cond.initialized RX4, Cond.code yX4_allNumbers cX4_allNumbers 1 (some .int), Cond.fieldLink RX4 15 "RippleCounts$Sightings" "often" "[I", Cond.methodLink RX4 40 yX4_numbersWith, Cond.static yX4_numbersWith, Cond.code yX4_numbersWith cX4_numbersWith 3 (some .int), Cond.methodLink RX6 134 yX4_flashedNumbers, Cond.instanceMethod yX4_flashedNumbers, Cond.selects RX4 yX4_flashedNumbers yX4_flashedNumbers, Cond.code yX4_flashedNumbers cX4_flashedNumbers 1 (some .int), Cond.fieldLink RX4 18 "RippleCounts$Sightings" "flashes" "[I", Cond.methodLink RX6 137 yX0_stillFor, Cond.instanceMethod yX0_stillFor, Cond.selects RX0 yX0_stillFor yX0_stillFor, Cond.initialized RX0, Cond.code yX0_stillFor cX0_stillFor 1 (some .int), Cond.fieldLink RX0 39 "RippleCounts$Counter" "lastDone" "I"]
def wsX6_count_r3 : List Cond := [Cond.fieldLink RX0 12 "RippleCounts$Counter" "wave" "LRippleCounts$Wave;", Cond.fieldLink RX0 74 "RippleCounts$Wave" "time" "I"]
def wsX6_count : List Cond := .code yX6_count cX6_count 2 (some .int) :: ((wsX6_count_r1 ++ (wsX6_count_r2 ++ wsX6_count_r3)) ++ wsX60 ++ wsX00 ++ wsX50 ++ wsX30 ++ wsX20 ++ wsX10 ++ wsX40)
def wsX6_stillIn_r1 : List Cond := [Cond.fieldLink RX6 34 "RippleCounts" "trial" "LRippleCounts$Wave;", Cond.fieldLink RX6 12 "RippleCounts" "now" "LRippleCounts$Counter;", Cond.fieldLink RX6 73 "RippleCounts$Counter" "wave" "LRippleCounts$Wave;", Cond.fieldLink RX6 122 "RippleCounts$Wave" "onTheirWay" "I", Cond.methodLink RX6 156 yX5_copyFrom, Cond.instanceMethod yX5_copyFrom, Cond.selects RX5 yX5_copyFrom yX5_copyFrom, Cond.initialized RX5, Cond.code yX5_copyFrom cX5_copyFrom 2 none, Cond.fieldLink RX5 31 "RippleCounts$Wave" "time" "I", Cond.fieldLink RX5 9 "RippleCounts$Wave" "stages" "I", Cond.fieldLink RX5 34 "RippleCounts$Wave" "shows" "I", Cond.fieldLink RX5 37 "RippleCounts$Wave" "onTheirWay" "I", Cond.fieldLink RX5 15 "RippleCounts$Wave" "delays" "[I", Cond.methodLink RX5 40 arraycopyName, Cond.native arraycopyName, Cond.static arraycopyName, Cond.initialized "java/lang/System", Cond.fieldLink RX5 19 "RippleCounts$Wave" "done" "[I", Cond.fieldLink RX5 22 "RippleCounts$Wave" "due" "[I", Cond.methodLink RX6 160 yX5_nanosecond, Cond.instanceMethod yX5_nanosecond, Cond.selects RX5 yX5_nanosecond yX5_nanosecond, Cond.code yX5_nanosecond cX5_nanosecond 1 none]
def wsX6_stillIn_r2 : List Cond := [Cond.methodLink RX5 54 yX5_turnDue, Cond.instanceMethod yX5_turnDue, Cond.selects RX5 yX5_turnDue yX5_turnDue, Cond.code yX5_turnDue cX5_turnDue 6 (some .int), Cond.methodLink RX5 46 yX5_turnOver, Cond.instanceMethod yX5_turnOver, Cond.selects RX5 yX5_turnOver yX5_turnOver, Cond.code yX5_turnOver cX5_turnOver 4 (some .int), Cond.methodLink RX5 50 yX5_begin, Cond.instanceMethod yX5_begin, Cond.selects RX5 yX5_begin yX5_begin, Cond.code yX5_begin cX5_begin 3 none]
def wsX6_stillIn : List Cond := .code yX6_stillIn cX6_stillIn 2 (some .int) :: ((wsX6_stillIn_r1 ++ wsX6_stillIn_r2) ++ wsX60 ++ wsX00 ++ wsX50)
def wsX6_showsIn_r1 : List Cond := [Cond.fieldLink RX6 34 "RippleCounts" "trial" "LRippleCounts$Wave;", Cond.fieldLink RX6 12 "RippleCounts" "now" "LRippleCounts$Counter;", Cond.fieldLink RX6 73 "RippleCounts$Counter" "wave" "LRippleCounts$Wave;", Cond.fieldLink RX6 116 "RippleCounts$Wave" "shows" "I", Cond.methodLink RX6 156 yX5_copyFrom, Cond.instanceMethod yX5_copyFrom, Cond.selects RX5 yX5_copyFrom yX5_copyFrom, Cond.initialized RX5, Cond.code yX5_copyFrom cX5_copyFrom 2 none, Cond.fieldLink RX5 31 "RippleCounts$Wave" "time" "I", Cond.fieldLink RX5 9 "RippleCounts$Wave" "stages" "I", Cond.fieldLink RX5 34 "RippleCounts$Wave" "shows" "I", Cond.fieldLink RX5 37 "RippleCounts$Wave" "onTheirWay" "I", Cond.fieldLink RX5 15 "RippleCounts$Wave" "delays" "[I", Cond.methodLink RX5 40 arraycopyName, Cond.native arraycopyName, Cond.static arraycopyName, Cond.initialized "java/lang/System", Cond.fieldLink RX5 19 "RippleCounts$Wave" "done" "[I", Cond.fieldLink RX5 22 "RippleCounts$Wave" "due" "[I", Cond.methodLink RX6 160 yX5_nanosecond, Cond.instanceMethod yX5_nanosecond, Cond.selects RX5 yX5_nanosecond yX5_nanosecond, Cond.code yX5_nanosecond cX5_nanosecond 1 none]
def wsX6_showsIn_r2 : List Cond := [Cond.methodLink RX5 54 yX5_turnDue, Cond.instanceMethod yX5_turnDue, Cond.selects RX5 yX5_turnDue yX5_turnDue, Cond.code yX5_turnDue cX5_turnDue 6 (some .int), Cond.methodLink RX5 46 yX5_turnOver, Cond.instanceMethod yX5_turnOver, Cond.selects RX5 yX5_turnOver yX5_turnOver, Cond.code yX5_turnOver cX5_turnOver 4 (some .int), Cond.methodLink RX5 50 yX5_begin, Cond.instanceMethod yX5_begin, Cond.selects RX5 yX5_begin yX5_begin, Cond.code yX5_begin cX5_begin 3 none]
def wsX6_showsIn : List Cond := .code yX6_showsIn cX6_showsIn 3 (some .int) :: ((wsX6_showsIn_r1 ++ wsX6_showsIn_r2) ++ wsX60 ++ wsX00 ++ wsX50)
def wsX6_wrong : List Cond := .code yX6_wrong cX6_wrong 2 (some .int) :: ([.fieldLink RX6 12 "RippleCounts" "now" "LRippleCounts$Counter;", .fieldLink RX6 73 "RippleCounts$Counter" "wave" "LRippleCounts$Wave;", .methodLink RX6 163 yX5_wrongReadings, .instanceMethod yX5_wrongReadings, .selects RX5 yX5_wrongReadings yX5_wrongReadings, .initialized RX5, .code yX5_wrongReadings cX5_wrongReadings 4 (some .int), .fieldLink RX5 9 "RippleCounts$Wave" "stages" "I", .methodLink RX5 58 yX5_readsTrue, .instanceMethod yX5_readsTrue, .selects RX5 yX5_readsTrue yX5_readsTrue, .code yX5_readsTrue cX5_readsTrue 6 (some .boolean), .fieldLink RX5 15 "RippleCounts$Wave" "delays" "[I", .methodLink RX5 62 Lib.Math.max.name, .static Lib.Math.max.name, .initialized "java/lang/Math", .code Lib.Math.max.name Lib.Math.max.code 2 (some .int)] ++ wsX60 ++ wsX00 ++ wsX50)
def wsX6_gapAbove : List Cond := .code yX6_gapAbove cX6_gapAbove 1 (some .int) :: ([.methodLink RX6 195 Lib.Math.min.name, .static Lib.Math.min.name, .initialized "java/lang/Math", .code Lib.Math.min.name Lib.Math.min.code 2 (some .int)])
def wsX6_safeGap : List Cond := .code yX6_safeGap cX6_safeGap 2 (some .int) :: ([.fieldLink RX6 12 "RippleCounts" "now" "LRippleCounts$Counter;", .fieldLink RX6 73 "RippleCounts$Counter" "wave" "LRippleCounts$Wave;", .methodLink RX6 166 yX5_throughAll, .instanceMethod yX5_throughAll, .selects RX5 yX5_throughAll yX5_throughAll, .initialized RX5, .code yX5_throughAll cX5_throughAll 3 (some .int), .fieldLink RX5 9 "RippleCounts$Wave" "stages" "I", .fieldLink RX5 15 "RippleCounts$Wave" "delays" "[I", .methodLink RX6 169 yX6_gapAbove, .static yX6_gapAbove, .initialized RX6, .code yX6_gapAbove cX6_gapAbove 1 (some .int), .methodLink RX6 195 Lib.Math.min.name, .static Lib.Math.min.name, .initialized "java/lang/Math", .code Lib.Math.min.name Lib.Math.min.code 2 (some .int)] ++ wsX60 ++ wsX00 ++ wsX50)
def wsX6_gapIfFast : List Cond := .code yX6_gapIfFast cX6_gapIfFast 2 (some .int) :: ([.fieldLink RX6 80 "RippleCounts$Wave" "delays" "[I", .methodLink RX6 166 yX5_throughAll, .instanceMethod yX5_throughAll, .selects RX5 yX5_throughAll yX5_throughAll, .initialized RX5, .code yX5_throughAll cX5_throughAll 3 (some .int), .fieldLink RX5 9 "RippleCounts$Wave" "stages" "I", .fieldLink RX5 15 "RippleCounts$Wave" "delays" "[I", .methodLink RX6 169 yX6_gapAbove, .static yX6_gapAbove, .initialized RX6, .code yX6_gapAbove cX6_gapAbove 1 (some .int), .methodLink RX6 195 Lib.Math.min.name, .static Lib.Math.min.name, .initialized "java/lang/Math", .code Lib.Math.min.name Lib.Math.min.code 2 (some .int)] ++ wsX50)
def wsX6_toBlame : List Cond := .code yX6_toBlame cX6_toBlame 7 (some .int) :: ([.fieldLink RX6 12 "RippleCounts" "now" "LRippleCounts$Counter;", .fieldLink RX6 73 "RippleCounts$Counter" "wave" "LRippleCounts$Wave;", .fieldLink RX6 144 "RippleCounts$Wave" "stages" "I", .methodLink RX6 172 yX6_gapIfFast, .static yX6_gapIfFast, .initialized RX6, .code yX6_gapIfFast cX6_gapIfFast 2 (some .int), .fieldLink RX6 80 "RippleCounts$Wave" "delays" "[I", .methodLink RX6 166 yX5_throughAll, .instanceMethod yX5_throughAll, .selects RX5 yX5_throughAll yX5_throughAll, .initialized RX5, .code yX5_throughAll cX5_throughAll 3 (some .int), .fieldLink RX5 9 "RippleCounts$Wave" "stages" "I", .fieldLink RX5 15 "RippleCounts$Wave" "delays" "[I", .methodLink RX6 169 yX6_gapAbove, .static yX6_gapAbove, .code yX6_gapAbove cX6_gapAbove 1 (some .int), .methodLink RX6 195 Lib.Math.min.name, .static Lib.Math.min.name, .initialized "java/lang/Math", .code Lib.Math.min.name Lib.Math.min.code 2 (some .int)] ++ wsX60 ++ wsX00 ++ wsX50)
def wsX6_put : List Cond := .code yX6_put cX6_put 3 (some .int) :: ([.fieldLink RX6 41 "RippleCounts" "pad" "LRippleCounts$Pad;", .methodLink RX6 176 yX2_append, .instanceMethod yX2_append, .selects RX2 yX2_append yX2_append, .initialized RX2, .code yX2_append cX2_append 5 (some .int), .fieldLink RX2 19 "RippleCounts$Pad" "length" "I", .fieldLink RX2 9 "RippleCounts$Pad" "signs" "[I", .constantLong RX2 23 (255), .methodLink RX2 15 yX2_charactersIn, .static yX2_charactersIn, .code yX2_charactersIn cX2_charactersIn 6 (some .int)] ++ wsX60 ++ wsX20)
def wsX6_wipe : List Cond := .code yX6_wipe cX6_wipe 1 (some .int) :: ([.fieldLink RX6 41 "RippleCounts" "pad" "LRippleCounts$Pad;", .methodLink RX6 180 yX2_clear, .instanceMethod yX2_clear, .selects RX2 yX2_clear yX2_clear, .initialized RX2, .code yX2_clear cX2_clear 2 (some .int), .fieldLink RX2 19 "RippleCounts$Pad" "length" "I"] ++ wsX60 ++ wsX20)
def wsX6_fault : List Cond := .code yX6_fault cX6_fault 1 (some .int) :: ([.fieldLink RX6 41 "RippleCounts" "pad" "LRippleCounts$Pad;", .methodLink RX6 183 yX2_firstFault, .instanceMethod yX2_firstFault, .selects RX2 yX2_firstFault yX2_firstFault, .initialized RX2, .code yX2_firstFault cX2_firstFault 3 (some .int), .fieldLink RX2 19 "RippleCounts$Pad" "length" "I", .fieldLink RX2 9 "RippleCounts$Pad" "signs" "[I", .methodLink RX2 25 yX2_placeAfter, .static yX2_placeAfter, .code yX2_placeAfter cX2_placeAfter 2 (some .int), .methodLink RX2 46 yX2_afterLetter, .static yX2_afterLetter, .code yX2_afterLetter cX2_afterLetter 1 (some .int), .methodLink RX2 33 yX2_isDigit, .static yX2_isDigit, .code yX2_isDigit cX2_isDigit 1 (some .boolean), .methodLink RX2 49 yX2_afterFirstDigit, .static yX2_afterFirstDigit, .code yX2_afterFirstDigit cX2_afterFirstDigit 1 (some .int), .methodLink RX2 52 yX2_afterOrder, .static yX2_afterOrder, .code yX2_afterOrder cX2_afterOrder 1 (some .int)] ++ wsX60 ++ wsX20)
def wsX6_carryOne_r1 : List Cond := [Cond.fieldLink RX6 41 "RippleCounts" "pad" "LRippleCounts$Pad;", Cond.fieldLink RX6 12 "RippleCounts" "now" "LRippleCounts$Counter;", Cond.methodLink RX6 206 yX2_signAt, Cond.instanceMethod yX2_signAt, Cond.selects RX2 yX2_signAt yX2_signAt, Cond.initialized RX2, Cond.code yX2_signAt cX2_signAt 2 (some .int), Cond.fieldLink RX2 19 "RippleCounts$Pad" "length" "I", Cond.fieldLink RX2 9 "RippleCounts$Pad" "signs" "[I", Cond.methodLink RX6 209 yX2_isDigitAt, Cond.instanceMethod yX2_isDigitAt, Cond.selects RX2 yX2_isDigitAt yX2_isDigitAt, Cond.code yX2_isDigitAt cX2_isDigitAt 2 (some .boolean), Cond.methodLink RX2 29 yX2_signAt, Cond.methodLink RX2 33 yX2_isDigit, Cond.static yX2_isDigit, Cond.code yX2_isDigit cX2_isDigit 1 (some .boolean), Cond.methodLink RX6 212 yX0_clockAndPass, Cond.instanceMethod yX0_clockAndPass, Cond.selects RX0 yX0_clockAndPass yX0_clockAndPass, Cond.initialized RX0, Cond.code yX0_clockAndPass cX0_clockAndPass 2 (some .int), Cond.fieldLink RX0 12 "RippleCounts$Counter" "wave" "LRippleCounts$Wave;", Cond.fieldLink RX0 74 "RippleCounts$Wave" "time" "I"]
def wsX6_carryOne_r2 : List Cond := [Cond.methodLink RX0 88 yX0_takeClock, Cond.instanceMethod yX0_takeClock, Cond.selects RX0 yX0_takeClock yX0_takeClock, Cond.code yX0_takeClock cX0_takeClock 1 (some .int), Cond.fieldLink RX0 36 "RippleCounts$Counter" "lastClock" "I", Cond.fieldLink RX0 52 "RippleCounts$Counter" "clocks" "I", Cond.fieldLink RX0 77 "RippleCounts$Wave" "stages" "I", Cond.methodLink RX0 80 yX5_begin, Cond.instanceMethod yX5_begin, Cond.selects RX5 yX5_begin yX5_begin, Cond.initialized RX5, Cond.code yX5_begin cX5_begin 3 none, Cond.fieldLink RX5 22 "RippleCounts$Wave" "due" "[I", Cond.fieldLink RX5 31 "RippleCounts$Wave" "time" "I", Cond.fieldLink RX5 15 "RippleCounts$Wave" "delays" "[I", Cond.fieldLink RX5 37 "RippleCounts$Wave" "onTheirWay" "I", Cond.methodLink RX0 84 yX0_nanosecond, Cond.instanceMethod yX0_nanosecond, Cond.selects RX0 yX0_nanosecond yX0_nanosecond, Cond.code yX0_nanosecond cX0_nanosecond 2 (some .int), Cond.fieldLink RX0 39 "RippleCounts$Counter" "lastDone" "I", Cond.fieldLink RX0 28 "RippleCounts$Counter" "sightings" "LRippleCounts$Sightings;", Cond.fieldLink RX0 94 "RippleCounts$Wave" "shows" "I", Cond.fieldLink RX0 55 "RippleCounts$Counter" "latchWaits" "Z"]
def wsX6_carryOne_r3 : List Cond := [Cond.fieldLink RX0 21 "RippleCounts$Counter" "readings" "LRippleCounts$Readings;", Cond.methodLink RX0 109 yX5_turnDue, Cond.instanceMethod yX5_turnDue, Cond.selects RX5 yX5_turnDue yX5_turnDue, Cond.code yX5_turnDue cX5_turnDue 6 (some .int), Cond.fieldLink RX5 9 "RippleCounts$Wave" "stages" "I", Cond.methodLink RX5 46 yX5_turnOver, Cond.instanceMethod yX5_turnOver, Cond.selects RX5 yX5_turnOver yX5_turnOver, Cond.code yX5_turnOver cX5_turnOver 4 (some .int), Cond.fieldLink RX5 34 "RippleCounts$Wave" "shows" "I", Cond.fieldLink RX5 19 "RippleCounts$Wave" "done" "[I", Cond.methodLink RX5 50 yX5_begin, Cond.methodLink RX0 112 yX4_add, Cond.instanceMethod yX4_add, Cond.selects RX4 yX4_add yX4_add, Cond.initialized RX4, Cond.code yX4_add cX4_add 4 none, Cond.fieldLink RX4 15 "RippleCounts$Sightings" "often" "[I", Cond.fieldLink RX4 24 "RippleCounts$Sightings" "size" "I", Cond.fieldLink RX4 9 "RippleCounts$Sightings" "ranked" "[I", Cond.fieldLink RX4 21 "RippleCounts$Sightings" "firstTimes" "[I", Cond.fieldLink RX4 18 "RippleCounts$Sightings" "flashes" "[I", Cond.methodLink RX0 115 yX0_isStill]
def wsX6_carryOne_r4 : List Cond := [Cond.instanceMethod yX0_isStill, Cond.selects RX0 yX0_isStill yX0_isStill, Cond.code yX0_isStill cX0_isStill 1 (some .boolean), Cond.fieldLink RX0 119 "RippleCounts$Wave" "onTheirWay" "I", Cond.fieldLink RX0 32 "RippleCounts$Counter" "hold" "I", Cond.methodLink RX0 97 yX3_add, Cond.instanceMethod yX3_add, Cond.selects RX3 yX3_add yX3_add, Cond.initialized RX3, Cond.code yX3_add cX3_add 5 none, Cond.fieldLink RX3 25 "RippleCounts$Readings" "size" "I", Cond.fieldLink RX3 9 "RippleCounts$Readings" "numbers" "[I", Cond.fieldLink RX3 15 "RippleCounts$Readings" "times" "[I", Cond.fieldLink RX3 18 "RippleCounts$Readings" "counts" "[I", Cond.fieldLink RX3 21 "RippleCounts$Readings" "latched" "[Z", Cond.methodLink RX6 60 yX0_takeClock, Cond.methodLink RX6 215 yX2_numberAt, Cond.instanceMethod yX2_numberAt, Cond.selects RX2 yX2_numberAt yX2_numberAt, Cond.code yX2_numberAt cX2_numberAt 4 (some .int), Cond.methodLink RX2 37 yX2_isDigitAt, Cond.methodLink RX2 40 yX2_digitAt, Cond.instanceMethod yX2_digitAt, Cond.selects RX2 yX2_digitAt yX2_digitAt]
def wsX6_carryOne_r5 : List Cond := [Cond.code yX2_digitAt cX2_digitAt 2 (some .int), Cond.methodLink RX6 64 yX0_letPass, Cond.instanceMethod yX0_letPass, Cond.selects RX0 yX0_letPass yX0_letPass, Cond.code yX0_letPass cX0_letPass 4 (some .int), Cond.methodLink RX6 218 yX2_digitAt, Cond.methodLink RX6 57 yX0_changeDelay, Cond.instanceMethod yX0_changeDelay, Cond.selects RX0 yX0_changeDelay yX0_changeDelay, Cond.code yX0_changeDelay cX0_changeDelay 4 (some .int), Cond.fieldLink RX0 70 "RippleCounts$Wave" "delays" "[I", Cond.methodLink RX0 66 yX5_hasStage, Cond.instanceMethod yX5_hasStage, Cond.selects RX5 yX5_hasStage yX5_hasStage, Cond.code yX5_hasStage cX5_hasStage 2 (some .boolean), Cond.methodLink RX6 67 yX0_readGate, Cond.instanceMethod yX0_readGate, Cond.selects RX0 yX0_readGate yX0_readGate, Cond.code yX0_readGate cX0_readGate 1 (some .int), Cond.fieldLink RX0 91 "RippleCounts$Readings" "size" "I", Cond.methodLink RX6 70 yX0_startLatch, Cond.instanceMethod yX0_startLatch, Cond.selects RX0 yX0_startLatch yX0_startLatch, Cond.code yX0_startLatch cX0_startLatch 1 (some .int)]
def wsX6_carryOne : List Cond := .code yX6_carryOne cX6_carryOne 2 (some .int) :: ((wsX6_carryOne_r1 ++ (wsX6_carryOne_r2 ++ (wsX6_carryOne_r3 ++ (wsX6_carryOne_r4 ++ wsX6_carryOne_r5)))) ++ wsX60 ++ wsX20 ++ wsX00 ++ wsX50 ++ wsX40 ++ wsX30)
def wsX6_carryAll_r1 : List Cond := [Cond.fieldLink RX6 41 "RippleCounts" "pad" "LRippleCounts$Pad;", Cond.fieldLink RX6 150 "RippleCounts$Pad" "length" "I", Cond.methodLink RX6 200 yX2_ordersAt, Cond.instanceMethod yX2_ordersAt, Cond.selects RX2 yX2_ordersAt yX2_ordersAt, Cond.initialized RX2, Cond.code yX2_ordersAt cX2_ordersAt 2 (some .int), Cond.methodLink RX2 29 yX2_signAt, Cond.instanceMethod yX2_signAt, Cond.selects RX2 yX2_signAt yX2_signAt, Cond.code yX2_signAt cX2_signAt 2 (some .int), Cond.fieldLink RX2 19 "RippleCounts$Pad" "length" "I", Cond.fieldLink RX2 9 "RippleCounts$Pad" "signs" "[I", Cond.methodLink RX2 37 yX2_isDigitAt, Cond.instanceMethod yX2_isDigitAt, Cond.selects RX2 yX2_isDigitAt yX2_isDigitAt, Cond.code yX2_isDigitAt cX2_isDigitAt 2 (some .boolean), Cond.methodLink RX2 33 yX2_isDigit, Cond.static yX2_isDigit, Cond.code yX2_isDigit cX2_isDigit 1 (some .boolean), Cond.methodLink RX2 43 yX2_numberAt, Cond.instanceMethod yX2_numberAt, Cond.selects RX2 yX2_numberAt yX2_numberAt, Cond.code yX2_numberAt cX2_numberAt 4 (some .int)]
def wsX6_carryAll_r2 : List Cond := [Cond.methodLink RX2 40 yX2_digitAt, Cond.instanceMethod yX2_digitAt, Cond.selects RX2 yX2_digitAt yX2_digitAt, Cond.code yX2_digitAt cX2_digitAt 2 (some .int), Cond.methodLink RX6 203 yX6_carryOne, Cond.instanceMethod yX6_carryOne, Cond.selects RX6 yX6_carryOne yX6_carryOne, Cond.initialized RX6, Cond.code yX6_carryOne cX6_carryOne 2 (some .int), Cond.fieldLink RX6 12 "RippleCounts" "now" "LRippleCounts$Counter;", Cond.methodLink RX6 206 yX2_signAt, Cond.methodLink RX6 209 yX2_isDigitAt, Cond.methodLink RX6 212 yX0_clockAndPass, Cond.instanceMethod yX0_clockAndPass, Cond.selects RX0 yX0_clockAndPass yX0_clockAndPass, Cond.initialized RX0, Cond.code yX0_clockAndPass cX0_clockAndPass 2 (some .int), Cond.fieldLink RX0 12 "RippleCounts$Counter" "wave" "LRippleCounts$Wave;", Cond.fieldLink RX0 74 "RippleCounts$Wave" "time" "I", Cond.methodLink RX0 88 yX0_takeClock, Cond.instanceMethod yX0_takeClock, Cond.selects RX0 yX0_takeClock yX0_takeClock, Cond.code yX0_takeClock cX0_takeClock 1 (some .int), Cond.fieldLink RX0 36 "RippleCounts$Counter" "lastClock" "I"]
def wsX6_carryAll_r3 : List Cond := [Cond.fieldLink RX0 52 "RippleCounts$Counter" "clocks" "I", Cond.fieldLink RX0 77 "RippleCounts$Wave" "stages" "I", Cond.methodLink RX0 80 yX5_begin, Cond.instanceMethod yX5_begin, Cond.selects RX5 yX5_begin yX5_begin, Cond.initialized RX5, Cond.code yX5_begin cX5_begin 3 none, Cond.fieldLink RX5 22 "RippleCounts$Wave" "due" "[I", Cond.fieldLink RX5 31 "RippleCounts$Wave" "time" "I", Cond.fieldLink RX5 15 "RippleCounts$Wave" "delays" "[I", Cond.fieldLink RX5 37 "RippleCounts$Wave" "onTheirWay" "I", Cond.methodLink RX0 84 yX0_nanosecond, Cond.instanceMethod yX0_nanosecond, Cond.selects RX0 yX0_nanosecond yX0_nanosecond, Cond.code yX0_nanosecond cX0_nanosecond 2 (some .int), Cond.fieldLink RX0 39 "RippleCounts$Counter" "lastDone" "I", Cond.fieldLink RX0 28 "RippleCounts$Counter" "sightings" "LRippleCounts$Sightings;", Cond.fieldLink RX0 94 "RippleCounts$Wave" "shows" "I", Cond.fieldLink RX0 55 "RippleCounts$Counter" "latchWaits" "Z", Cond.fieldLink RX0 21 "RippleCounts$Counter" "readings" "LRippleCounts$Readings;", Cond.methodLink RX0 109 yX5_turnDue, Cond.instanceMethod yX5_turnDue, Cond.selects RX5 yX5_turnDue yX5_turnDue, Cond.code yX5_turnDue cX5_turnDue 6 (some .int)]
def wsX6_carryAll_r4 : List Cond := [Cond.fieldLink RX5 9 "RippleCounts$Wave" "stages" "I", Cond.methodLink RX5 46 yX5_turnOver, Cond.instanceMethod yX5_turnOver, Cond.selects RX5 yX5_turnOver yX5_turnOver, Cond.code yX5_turnOver cX5_turnOver 4 (some .int), Cond.fieldLink RX5 34 "RippleCounts$Wave" "shows" "I", Cond.fieldLink RX5 19 "RippleCounts$Wave" "done" "[I", Cond.methodLink RX5 50 yX5_begin, Cond.methodLink RX0 112 yX4_add, Cond.instanceMethod yX4_add, Cond.selects RX4 yX4_add yX4_add, Cond.initialized RX4, Cond.code yX4_add cX4_add 4 none, Cond.fieldLink RX4 15 "RippleCounts$Sightings" "often" "[I", Cond.fieldLink RX4 24 "RippleCounts$Sightings" "size" "I", Cond.fieldLink RX4 9 "RippleCounts$Sightings" "ranked" "[I", Cond.fieldLink RX4 21 "RippleCounts$Sightings" "firstTimes" "[I", Cond.fieldLink RX4 18 "RippleCounts$Sightings" "flashes" "[I", Cond.methodLink RX0 115 yX0_isStill, Cond.instanceMethod yX0_isStill, Cond.selects RX0 yX0_isStill yX0_isStill, Cond.code yX0_isStill cX0_isStill 1 (some .boolean), Cond.fieldLink RX0 119 "RippleCounts$Wave" "onTheirWay" "I", Cond.fieldLink RX0 32 "RippleCounts$Counter" "hold" "I"]
def wsX6_carryAll_r5 : List Cond := [Cond.methodLink RX0 97 yX3_add, Cond.instanceMethod yX3_add, Cond.selects RX3 yX3_add yX3_add, Cond.initialized RX3, Cond.code yX3_add cX3_add 5 none, Cond.fieldLink RX3 25 "RippleCounts$Readings" "size" "I", Cond.fieldLink RX3 9 "RippleCounts$Readings" "numbers" "[I", Cond.fieldLink RX3 15 "RippleCounts$Readings" "times" "[I", Cond.fieldLink RX3 18 "RippleCounts$Readings" "counts" "[I", Cond.fieldLink RX3 21 "RippleCounts$Readings" "latched" "[Z", Cond.methodLink RX6 60 yX0_takeClock, Cond.methodLink RX6 215 yX2_numberAt, Cond.methodLink RX6 64 yX0_letPass, Cond.instanceMethod yX0_letPass, Cond.selects RX0 yX0_letPass yX0_letPass, Cond.code yX0_letPass cX0_letPass 4 (some .int), Cond.methodLink RX6 218 yX2_digitAt, Cond.methodLink RX6 57 yX0_changeDelay, Cond.instanceMethod yX0_changeDelay, Cond.selects RX0 yX0_changeDelay yX0_changeDelay, Cond.code yX0_changeDelay cX0_changeDelay 4 (some .int), Cond.fieldLink RX0 70 "RippleCounts$Wave" "delays" "[I", Cond.methodLink RX0 66 yX5_hasStage, Cond.instanceMethod yX5_hasStage]
def wsX6_carryAll_r6 : List Cond := [Cond.selects RX5 yX5_hasStage yX5_hasStage, Cond.code yX5_hasStage cX5_hasStage 2 (some .boolean), Cond.methodLink RX6 67 yX0_readGate, Cond.instanceMethod yX0_readGate, Cond.selects RX0 yX0_readGate yX0_readGate, Cond.code yX0_readGate cX0_readGate 1 (some .int), Cond.fieldLink RX0 91 "RippleCounts$Readings" "size" "I", Cond.methodLink RX6 70 yX0_startLatch, Cond.instanceMethod yX0_startLatch, Cond.selects RX0 yX0_startLatch yX0_startLatch, Cond.code yX0_startLatch cX0_startLatch 1 (some .int)]
def wsX6_carryAll : List Cond := .code yX6_carryAll cX6_carryAll 5 (some .int) :: ((wsX6_carryAll_r1 ++ (wsX6_carryAll_r2 ++ (wsX6_carryAll_r3 ++ (wsX6_carryAll_r4 ++ (wsX6_carryAll_r5 ++ wsX6_carryAll_r6))))) ++ wsX60 ++ wsX20 ++ wsX00 ++ wsX50 ++ wsX40 ++ wsX30)
def wsX6_carryOut_r1 : List Cond := [Cond.fieldLink RX6 41 "RippleCounts" "pad" "LRippleCounts$Pad;", Cond.fieldLink RX6 19 "RippleCounts" "history" "LRippleCounts$History;", Cond.fieldLink RX6 12 "RippleCounts" "now" "LRippleCounts$Counter;", Cond.methodLink RX6 183 yX2_firstFault, Cond.instanceMethod yX2_firstFault, Cond.selects RX2 yX2_firstFault yX2_firstFault, Cond.initialized RX2, Cond.code yX2_firstFault cX2_firstFault 3 (some .int), Cond.fieldLink RX2 19 "RippleCounts$Pad" "length" "I", Cond.fieldLink RX2 9 "RippleCounts$Pad" "signs" "[I", Cond.methodLink RX2 25 yX2_placeAfter, Cond.static yX2_placeAfter, Cond.code yX2_placeAfter cX2_placeAfter 2 (some .int), Cond.methodLink RX2 46 yX2_afterLetter, Cond.static yX2_afterLetter, Cond.code yX2_afterLetter cX2_afterLetter 1 (some .int), Cond.methodLink RX2 33 yX2_isDigit, Cond.static yX2_isDigit, Cond.code yX2_isDigit cX2_isDigit 1 (some .boolean), Cond.methodLink RX2 49 yX2_afterFirstDigit, Cond.static yX2_afterFirstDigit, Cond.code yX2_afterFirstDigit cX2_afterFirstDigit 1 (some .int), Cond.methodLink RX2 52 yX2_afterOrder, Cond.static yX2_afterOrder]
def wsX6_carryOut_r2 : List Cond := [Cond.code yX2_afterOrder cX2_afterOrder 1 (some .int), Cond.methodLink RX6 45 yX1_prepare, Cond.instanceMethod yX1_prepare, Cond.selects RX1 yX1_prepare yX1_prepare, Cond.initialized RX1, Cond.code yX1_prepare cX1_prepare 2 none, Cond.fieldLink RX1 13 "RippleCounts$History" "rows" "[LRippleCounts$Counter;", Cond.methodLink RX1 18 yX1_spareRow, Cond.instanceMethod yX1_spareRow, Cond.selects RX1 yX1_spareRow yX1_spareRow, Cond.code yX1_spareRow cX1_spareRow 1 (some .int), Cond.fieldLink RX1 30 "RippleCounts$History" "oldest" "I", Cond.fieldLink RX1 26 "RippleCounts$History" "kept" "I", Cond.methodLink RX1 22 yX0_copyFrom, Cond.instanceMethod yX0_copyFrom, Cond.selects RX0 yX0_copyFrom yX0_copyFrom, Cond.initialized RX0, Cond.code yX0_copyFrom cX0_copyFrom 2 none, Cond.fieldLink RX0 12 "RippleCounts$Counter" "wave" "LRippleCounts$Wave;", Cond.fieldLink RX0 21 "RippleCounts$Counter" "readings" "LRippleCounts$Readings;", Cond.fieldLink RX0 28 "RippleCounts$Counter" "sightings" "LRippleCounts$Sightings;", Cond.fieldLink RX0 32 "RippleCounts$Counter" "hold" "I", Cond.fieldLink RX0 52 "RippleCounts$Counter" "clocks" "I", Cond.fieldLink RX0 36 "RippleCounts$Counter" "lastClock" "I"]
def wsX6_carryOut_r3 : List Cond := [Cond.fieldLink RX0 39 "RippleCounts$Counter" "lastDone" "I", Cond.fieldLink RX0 55 "RippleCounts$Counter" "latchWaits" "Z", Cond.methodLink RX0 42 yX5_copyFrom, Cond.instanceMethod yX5_copyFrom, Cond.selects RX5 yX5_copyFrom yX5_copyFrom, Cond.initialized RX5, Cond.code yX5_copyFrom cX5_copyFrom 2 none, Cond.fieldLink RX5 31 "RippleCounts$Wave" "time" "I", Cond.fieldLink RX5 9 "RippleCounts$Wave" "stages" "I", Cond.fieldLink RX5 34 "RippleCounts$Wave" "shows" "I", Cond.fieldLink RX5 37 "RippleCounts$Wave" "onTheirWay" "I", Cond.fieldLink RX5 15 "RippleCounts$Wave" "delays" "[I", Cond.methodLink RX5 40 arraycopyName, Cond.native arraycopyName, Cond.static arraycopyName, Cond.initialized "java/lang/System", Cond.fieldLink RX5 19 "RippleCounts$Wave" "done" "[I", Cond.fieldLink RX5 22 "RippleCounts$Wave" "due" "[I", Cond.methodLink RX0 46 yX3_copyFrom, Cond.instanceMethod yX3_copyFrom, Cond.selects RX3 yX3_copyFrom yX3_copyFrom, Cond.initialized RX3, Cond.code yX3_copyFrom cX3_copyFrom 2 none, Cond.fieldLink RX3 25 "RippleCounts$Readings" "size" "I"]
def wsX6_carryOut_r4 : List Cond := [Cond.fieldLink RX3 9 "RippleCounts$Readings" "numbers" "[I", Cond.methodLink RX3 29 arraycopyName, Cond.fieldLink RX3 15 "RippleCounts$Readings" "times" "[I", Cond.fieldLink RX3 18 "RippleCounts$Readings" "counts" "[I", Cond.fieldLink RX3 21 "RippleCounts$Readings" "latched" "[Z", Cond.methodLink RX0 49 yX4_copyFrom, Cond.instanceMethod yX4_copyFrom, Cond.selects RX4 yX4_copyFrom yX4_copyFrom, Cond.initialized RX4, Cond.code yX4_copyFrom cX4_copyFrom 2 none, Cond.fieldLink RX4 24 "RippleCounts$Sightings" "size" "I", Cond.fieldLink RX4 9 "RippleCounts$Sightings" "ranked" "[I", Cond.methodLink RX4 28 arraycopyName, Cond.fieldLink RX4 15 "RippleCounts$Sightings" "often" "[I", Cond.fieldLink RX4 18 "RippleCounts$Sightings" "flashes" "[I", Cond.fieldLink RX4 21 "RippleCounts$Sightings" "firstTimes" "[I", Cond.methodLink RX6 186 yX6_carryAll, Cond.instanceMethod yX6_carryAll, Cond.selects RX6 yX6_carryAll yX6_carryAll, Cond.initialized RX6, Cond.code yX6_carryAll cX6_carryAll 5 (some .int), Cond.fieldLink RX6 150 "RippleCounts$Pad" "length" "I", Cond.methodLink RX6 200 yX2_ordersAt, Cond.instanceMethod yX2_ordersAt]
def wsX6_carryOut_r5 : List Cond := [Cond.selects RX2 yX2_ordersAt yX2_ordersAt, Cond.code yX2_ordersAt cX2_ordersAt 2 (some .int), Cond.methodLink RX2 29 yX2_signAt, Cond.instanceMethod yX2_signAt, Cond.selects RX2 yX2_signAt yX2_signAt, Cond.code yX2_signAt cX2_signAt 2 (some .int), Cond.methodLink RX2 37 yX2_isDigitAt, Cond.instanceMethod yX2_isDigitAt, Cond.selects RX2 yX2_isDigitAt yX2_isDigitAt, Cond.code yX2_isDigitAt cX2_isDigitAt 2 (some .boolean), Cond.methodLink RX2 43 yX2_numberAt, Cond.instanceMethod yX2_numberAt, Cond.selects RX2 yX2_numberAt yX2_numberAt, Cond.code yX2_numberAt cX2_numberAt 4 (some .int), Cond.methodLink RX2 40 yX2_digitAt, Cond.instanceMethod yX2_digitAt, Cond.selects RX2 yX2_digitAt yX2_digitAt, Cond.code yX2_digitAt cX2_digitAt 2 (some .int), Cond.methodLink RX6 203 yX6_carryOne, Cond.instanceMethod yX6_carryOne, Cond.selects RX6 yX6_carryOne yX6_carryOne, Cond.code yX6_carryOne cX6_carryOne 2 (some .int), Cond.methodLink RX6 206 yX2_signAt, Cond.methodLink RX6 209 yX2_isDigitAt]
def wsX6_carryOut_r6 : List Cond := [Cond.methodLink RX6 212 yX0_clockAndPass, Cond.instanceMethod yX0_clockAndPass, Cond.selects RX0 yX0_clockAndPass yX0_clockAndPass, Cond.code yX0_clockAndPass cX0_clockAndPass 2 (some .int), Cond.fieldLink RX0 74 "RippleCounts$Wave" "time" "I", Cond.methodLink RX0 88 yX0_takeClock, Cond.instanceMethod yX0_takeClock, Cond.selects RX0 yX0_takeClock yX0_takeClock, Cond.code yX0_takeClock cX0_takeClock 1 (some .int), Cond.fieldLink RX0 77 "RippleCounts$Wave" "stages" "I", Cond.methodLink RX0 80 yX5_begin, Cond.instanceMethod yX5_begin, Cond.selects RX5 yX5_begin yX5_begin, Cond.code yX5_begin cX5_begin 3 none, Cond.methodLink RX0 84 yX0_nanosecond, Cond.instanceMethod yX0_nanosecond, Cond.selects RX0 yX0_nanosecond yX0_nanosecond, Cond.code yX0_nanosecond cX0_nanosecond 2 (some .int), Cond.fieldLink RX0 94 "RippleCounts$Wave" "shows" "I", Cond.methodLink RX0 109 yX5_turnDue, Cond.instanceMethod yX5_turnDue, Cond.selects RX5 yX5_turnDue yX5_turnDue, Cond.code yX5_turnDue cX5_turnDue 6 (some .int), Cond.methodLink RX5 46 yX5_turnOver]
def wsX6_carryOut_r7 : List Cond := [Cond.instanceMethod yX5_turnOver, Cond.selects RX5 yX5_turnOver yX5_turnOver, Cond.code yX5_turnOver cX5_turnOver 4 (some .int), Cond.methodLink RX5 50 yX5_begin, Cond.methodLink RX0 112 yX4_add, Cond.instanceMethod yX4_add, Cond.selects RX4 yX4_add yX4_add, Cond.code yX4_add cX4_add 4 none, Cond.methodLink RX0 115 yX0_isStill, Cond.instanceMethod yX0_isStill, Cond.selects RX0 yX0_isStill yX0_isStill, Cond.code yX0_isStill cX0_isStill 1 (some .boolean), Cond.fieldLink RX0 119 "RippleCounts$Wave" "onTheirWay" "I", Cond.methodLink RX0 97 yX3_add, Cond.instanceMethod yX3_add, Cond.selects RX3 yX3_add yX3_add, Cond.code yX3_add cX3_add 5 none, Cond.methodLink RX6 60 yX0_takeClock, Cond.methodLink RX6 215 yX2_numberAt, Cond.methodLink RX6 64 yX0_letPass, Cond.instanceMethod yX0_letPass, Cond.selects RX0 yX0_letPass yX0_letPass, Cond.code yX0_letPass cX0_letPass 4 (some .int), Cond.methodLink RX6 218 yX2_digitAt]
def wsX6_carryOut_r8 : List Cond := [Cond.methodLink RX6 57 yX0_changeDelay, Cond.instanceMethod yX0_changeDelay, Cond.selects RX0 yX0_changeDelay yX0_changeDelay, Cond.code yX0_changeDelay cX0_changeDelay 4 (some .int), Cond.fieldLink RX0 70 "RippleCounts$Wave" "delays" "[I", Cond.methodLink RX0 66 yX5_hasStage, Cond.instanceMethod yX5_hasStage, Cond.selects RX5 yX5_hasStage yX5_hasStage, Cond.code yX5_hasStage cX5_hasStage 2 (some .boolean), Cond.methodLink RX6 67 yX0_readGate, Cond.instanceMethod yX0_readGate, Cond.selects RX0 yX0_readGate yX0_readGate, Cond.code yX0_readGate cX0_readGate 1 (some .int), Cond.fieldLink RX0 91 "RippleCounts$Readings" "size" "I", Cond.methodLink RX6 70 yX0_startLatch, Cond.instanceMethod yX0_startLatch, Cond.selects RX0 yX0_startLatch yX0_startLatch, Cond.code yX0_startLatch cX0_startLatch 1 (some .int), Cond.methodLink RX6 180 yX2_clear, Cond.instanceMethod yX2_clear, Cond.selects RX2 yX2_clear yX2_clear, Cond.code yX2_clear cX2_clear 2 (some .int), Cond.methodLink RX6 53 yX1_settle, Cond.instanceMethod yX1_settle]
def wsX6_carryOut_r9 : List Cond := [Cond.selects RX1 yX1_settle yX1_settle, Cond.code yX1_settle cX1_settle 2 (some .int)]
def wsX6_carryOut : List Cond := .code yX6_carryOut cX6_carryOut 2 (some .int) :: ((wsX6_carryOut_r1 ++ (wsX6_carryOut_r2 ++ (wsX6_carryOut_r3 ++ (wsX6_carryOut_r4 ++ (wsX6_carryOut_r5 ++ (wsX6_carryOut_r6 ++ (wsX6_carryOut_r7 ++ (wsX6_carryOut_r8 ++ wsX6_carryOut_r9)))))))) ++ wsX60 ++ wsX20 ++ wsX10 ++ wsX00 ++ wsX50 ++ wsX30 ++ wsX40)
def wsX6_undo_r1 : List Cond := [Cond.fieldLink RX6 19 "RippleCounts" "history" "LRippleCounts$History;", Cond.fieldLink RX6 12 "RippleCounts" "now" "LRippleCounts$Counter;", Cond.methodLink RX6 189 yX1_takeBack, Cond.instanceMethod yX1_takeBack, Cond.selects RX1 yX1_takeBack yX1_takeBack, Cond.initialized RX1, Cond.code yX1_takeBack cX1_takeBack 2 (some .int), Cond.fieldLink RX1 26 "RippleCounts$History" "kept" "I", Cond.fieldLink RX1 13 "RippleCounts$History" "rows" "[LRippleCounts$Counter;", Cond.methodLink RX1 18 yX1_spareRow, Cond.instanceMethod yX1_spareRow, Cond.selects RX1 yX1_spareRow yX1_spareRow, Cond.code yX1_spareRow cX1_spareRow 1 (some .int), Cond.fieldLink RX1 30 "RippleCounts$History" "oldest" "I", Cond.methodLink RX1 22 yX0_copyFrom, Cond.instanceMethod yX0_copyFrom, Cond.selects RX0 yX0_copyFrom yX0_copyFrom, Cond.initialized RX0, Cond.code yX0_copyFrom cX0_copyFrom 2 none, Cond.fieldLink RX0 12 "RippleCounts$Counter" "wave" "LRippleCounts$Wave;", Cond.fieldLink RX0 21 "RippleCounts$Counter" "readings" "LRippleCounts$Readings;", Cond.fieldLink RX0 28 "RippleCounts$Counter" "sightings" "LRippleCounts$Sightings;", Cond.fieldLink RX0 32 "RippleCounts$Counter" "hold" "I", Cond.fieldLink RX0 52 "RippleCounts$Counter" "clocks" "I"]
def wsX6_undo_r2 : List Cond := [Cond.fieldLink RX0 36 "RippleCounts$Counter" "lastClock" "I", Cond.fieldLink RX0 39 "RippleCounts$Counter" "lastDone" "I", Cond.fieldLink RX0 55 "RippleCounts$Counter" "latchWaits" "Z", Cond.methodLink RX0 42 yX5_copyFrom, Cond.instanceMethod yX5_copyFrom, Cond.selects RX5 yX5_copyFrom yX5_copyFrom, Cond.initialized RX5, Cond.code yX5_copyFrom cX5_copyFrom 2 none, Cond.fieldLink RX5 31 "RippleCounts$Wave" "time" "I", Cond.fieldLink RX5 9 "RippleCounts$Wave" "stages" "I", Cond.fieldLink RX5 34 "RippleCounts$Wave" "shows" "I", Cond.fieldLink RX5 37 "RippleCounts$Wave" "onTheirWay" "I", Cond.fieldLink RX5 15 "RippleCounts$Wave" "delays" "[I", Cond.methodLink RX5 40 arraycopyName, Cond.native arraycopyName, Cond.static arraycopyName, Cond.initialized "java/lang/System", Cond.fieldLink RX5 19 "RippleCounts$Wave" "done" "[I", Cond.fieldLink RX5 22 "RippleCounts$Wave" "due" "[I", Cond.methodLink RX0 46 yX3_copyFrom, Cond.instanceMethod yX3_copyFrom, Cond.selects RX3 yX3_copyFrom yX3_copyFrom, Cond.initialized RX3, Cond.code yX3_copyFrom cX3_copyFrom 2 none]
def wsX6_undo_r3 : List Cond := [Cond.fieldLink RX3 25 "RippleCounts$Readings" "size" "I", Cond.fieldLink RX3 9 "RippleCounts$Readings" "numbers" "[I", Cond.methodLink RX3 29 arraycopyName, Cond.fieldLink RX3 15 "RippleCounts$Readings" "times" "[I", Cond.fieldLink RX3 18 "RippleCounts$Readings" "counts" "[I", Cond.fieldLink RX3 21 "RippleCounts$Readings" "latched" "[Z", Cond.methodLink RX0 49 yX4_copyFrom, Cond.instanceMethod yX4_copyFrom, Cond.selects RX4 yX4_copyFrom yX4_copyFrom, Cond.initialized RX4, Cond.code yX4_copyFrom cX4_copyFrom 2 none, Cond.fieldLink RX4 24 "RippleCounts$Sightings" "size" "I", Cond.fieldLink RX4 9 "RippleCounts$Sightings" "ranked" "[I", Cond.methodLink RX4 28 arraycopyName, Cond.fieldLink RX4 15 "RippleCounts$Sightings" "often" "[I", Cond.fieldLink RX4 18 "RippleCounts$Sightings" "flashes" "[I", Cond.fieldLink RX4 21 "RippleCounts$Sightings" "firstTimes" "[I"]
def wsX6_undo : List Cond := .code yX6_undo cX6_undo 1 (some .int) :: ((wsX6_undo_r1 ++ (wsX6_undo_r2 ++ wsX6_undo_r3)) ++ wsX60 ++ wsX10 ++ wsX00 ++ wsX50 ++ wsX30 ++ wsX40)
def wsX6_save_r1 : List Cond := [Cond.fieldLink RX6 23 "RippleCounts" "slots" "[LRippleCounts$Counter;", Cond.fieldLink RX6 12 "RippleCounts" "now" "LRippleCounts$Counter;", Cond.fieldLink RX6 27 "RippleCounts" "slotUsed" "[Z", Cond.fieldLink RX6 119 "RippleCounts$Counter" "clocks" "I", Cond.methodLink RX6 193 yX0_copyFrom, Cond.instanceMethod yX0_copyFrom, Cond.selects RX0 yX0_copyFrom yX0_copyFrom, Cond.initialized RX0, Cond.code yX0_copyFrom cX0_copyFrom 2 none, Cond.fieldLink RX0 12 "RippleCounts$Counter" "wave" "LRippleCounts$Wave;", Cond.fieldLink RX0 21 "RippleCounts$Counter" "readings" "LRippleCounts$Readings;", Cond.fieldLink RX0 28 "RippleCounts$Counter" "sightings" "LRippleCounts$Sightings;", Cond.fieldLink RX0 32 "RippleCounts$Counter" "hold" "I", Cond.fieldLink RX0 52 "RippleCounts$Counter" "clocks" "I", Cond.fieldLink RX0 36 "RippleCounts$Counter" "lastClock" "I", Cond.fieldLink RX0 39 "RippleCounts$Counter" "lastDone" "I", Cond.fieldLink RX0 55 "RippleCounts$Counter" "latchWaits" "Z", Cond.methodLink RX0 42 yX5_copyFrom, Cond.instanceMethod yX5_copyFrom, Cond.selects RX5 yX5_copyFrom yX5_copyFrom, Cond.initialized RX5, Cond.code yX5_copyFrom cX5_copyFrom 2 none, Cond.fieldLink RX5 31 "RippleCounts$Wave" "time" "I", Cond.fieldLink RX5 9 "RippleCounts$Wave" "stages" "I"]
def wsX6_save_r2 : List Cond := [Cond.fieldLink RX5 34 "RippleCounts$Wave" "shows" "I", Cond.fieldLink RX5 37 "RippleCounts$Wave" "onTheirWay" "I", Cond.fieldLink RX5 15 "RippleCounts$Wave" "delays" "[I", Cond.methodLink RX5 40 arraycopyName, Cond.native arraycopyName, Cond.static arraycopyName, Cond.initialized "java/lang/System", Cond.fieldLink RX5 19 "RippleCounts$Wave" "done" "[I", Cond.fieldLink RX5 22 "RippleCounts$Wave" "due" "[I", Cond.methodLink RX0 46 yX3_copyFrom, Cond.instanceMethod yX3_copyFrom, Cond.selects RX3 yX3_copyFrom yX3_copyFrom, Cond.initialized RX3, Cond.code yX3_copyFrom cX3_copyFrom 2 none, Cond.fieldLink RX3 25 "RippleCounts$Readings" "size" "I", Cond.fieldLink RX3 9 "RippleCounts$Readings" "numbers" "[I", Cond.methodLink RX3 29 arraycopyName, Cond.fieldLink RX3 15 "RippleCounts$Readings" "times" "[I", Cond.fieldLink RX3 18 "RippleCounts$Readings" "counts" "[I", Cond.fieldLink RX3 21 "RippleCounts$Readings" "latched" "[Z", Cond.methodLink RX0 49 yX4_copyFrom, Cond.instanceMethod yX4_copyFrom, Cond.selects RX4 yX4_copyFrom yX4_copyFrom, Cond.initialized RX4]
def wsX6_save_r3 : List Cond := [Cond.code yX4_copyFrom cX4_copyFrom 2 none, Cond.fieldLink RX4 24 "RippleCounts$Sightings" "size" "I", Cond.fieldLink RX4 9 "RippleCounts$Sightings" "ranked" "[I", Cond.methodLink RX4 28 arraycopyName, Cond.fieldLink RX4 15 "RippleCounts$Sightings" "often" "[I", Cond.fieldLink RX4 18 "RippleCounts$Sightings" "flashes" "[I", Cond.fieldLink RX4 21 "RippleCounts$Sightings" "firstTimes" "[I"]
def wsX6_save : List Cond := .code yX6_save cX6_save 2 (some .int) :: ((wsX6_save_r1 ++ (wsX6_save_r2 ++ wsX6_save_r3)) ++ wsX60 ++ wsX00 ++ wsX50 ++ wsX30 ++ wsX40)
def wsX6_restore_r1 : List Cond := [Cond.fieldLink RX6 27 "RippleCounts" "slotUsed" "[Z", Cond.fieldLink RX6 19 "RippleCounts" "history" "LRippleCounts$History;", Cond.fieldLink RX6 12 "RippleCounts" "now" "LRippleCounts$Counter;", Cond.fieldLink RX6 23 "RippleCounts" "slots" "[LRippleCounts$Counter;", Cond.fieldLink RX6 119 "RippleCounts$Counter" "clocks" "I", Cond.methodLink RX6 45 yX1_prepare, Cond.instanceMethod yX1_prepare, Cond.selects RX1 yX1_prepare yX1_prepare, Cond.initialized RX1, Cond.code yX1_prepare cX1_prepare 2 none, Cond.fieldLink RX1 13 "RippleCounts$History" "rows" "[LRippleCounts$Counter;", Cond.methodLink RX1 18 yX1_spareRow, Cond.instanceMethod yX1_spareRow, Cond.selects RX1 yX1_spareRow yX1_spareRow, Cond.code yX1_spareRow cX1_spareRow 1 (some .int), Cond.fieldLink RX1 30 "RippleCounts$History" "oldest" "I", Cond.fieldLink RX1 26 "RippleCounts$History" "kept" "I", Cond.methodLink RX1 22 yX0_copyFrom, Cond.instanceMethod yX0_copyFrom, Cond.selects RX0 yX0_copyFrom yX0_copyFrom, Cond.initialized RX0, Cond.code yX0_copyFrom cX0_copyFrom 2 none, Cond.fieldLink RX0 12 "RippleCounts$Counter" "wave" "LRippleCounts$Wave;", Cond.fieldLink RX0 21 "RippleCounts$Counter" "readings" "LRippleCounts$Readings;"]
def wsX6_restore_r2 : List Cond := [Cond.fieldLink RX0 28 "RippleCounts$Counter" "sightings" "LRippleCounts$Sightings;", Cond.fieldLink RX0 32 "RippleCounts$Counter" "hold" "I", Cond.fieldLink RX0 52 "RippleCounts$Counter" "clocks" "I", Cond.fieldLink RX0 36 "RippleCounts$Counter" "lastClock" "I", Cond.fieldLink RX0 39 "RippleCounts$Counter" "lastDone" "I", Cond.fieldLink RX0 55 "RippleCounts$Counter" "latchWaits" "Z", Cond.methodLink RX0 42 yX5_copyFrom, Cond.instanceMethod yX5_copyFrom, Cond.selects RX5 yX5_copyFrom yX5_copyFrom, Cond.initialized RX5, Cond.code yX5_copyFrom cX5_copyFrom 2 none, Cond.fieldLink RX5 31 "RippleCounts$Wave" "time" "I", Cond.fieldLink RX5 9 "RippleCounts$Wave" "stages" "I", Cond.fieldLink RX5 34 "RippleCounts$Wave" "shows" "I", Cond.fieldLink RX5 37 "RippleCounts$Wave" "onTheirWay" "I", Cond.fieldLink RX5 15 "RippleCounts$Wave" "delays" "[I", Cond.methodLink RX5 40 arraycopyName, Cond.native arraycopyName, Cond.static arraycopyName, Cond.initialized "java/lang/System", Cond.fieldLink RX5 19 "RippleCounts$Wave" "done" "[I", Cond.fieldLink RX5 22 "RippleCounts$Wave" "due" "[I", Cond.methodLink RX0 46 yX3_copyFrom, Cond.instanceMethod yX3_copyFrom]
def wsX6_restore_r3 : List Cond := [Cond.selects RX3 yX3_copyFrom yX3_copyFrom, Cond.initialized RX3, Cond.code yX3_copyFrom cX3_copyFrom 2 none, Cond.fieldLink RX3 25 "RippleCounts$Readings" "size" "I", Cond.fieldLink RX3 9 "RippleCounts$Readings" "numbers" "[I", Cond.methodLink RX3 29 arraycopyName, Cond.fieldLink RX3 15 "RippleCounts$Readings" "times" "[I", Cond.fieldLink RX3 18 "RippleCounts$Readings" "counts" "[I", Cond.fieldLink RX3 21 "RippleCounts$Readings" "latched" "[Z", Cond.methodLink RX0 49 yX4_copyFrom, Cond.instanceMethod yX4_copyFrom, Cond.selects RX4 yX4_copyFrom yX4_copyFrom, Cond.initialized RX4, Cond.code yX4_copyFrom cX4_copyFrom 2 none, Cond.fieldLink RX4 24 "RippleCounts$Sightings" "size" "I", Cond.fieldLink RX4 9 "RippleCounts$Sightings" "ranked" "[I", Cond.methodLink RX4 28 arraycopyName, Cond.fieldLink RX4 15 "RippleCounts$Sightings" "often" "[I", Cond.fieldLink RX4 18 "RippleCounts$Sightings" "flashes" "[I", Cond.fieldLink RX4 21 "RippleCounts$Sightings" "firstTimes" "[I", Cond.methodLink RX6 193 yX0_copyFrom, Cond.methodLink RX6 53 yX1_settle, Cond.instanceMethod yX1_settle, Cond.selects RX1 yX1_settle yX1_settle]
def wsX6_restore_r4 : List Cond := [Cond.code yX1_settle cX1_settle 2 (some .int)]
def wsX6_restore : List Cond := .code yX6_restore cX6_restore 2 (some .int) :: ((wsX6_restore_r1 ++ (wsX6_restore_r2 ++ (wsX6_restore_r3 ++ wsX6_restore_r4))) ++ wsX60 ++ wsX00 ++ wsX10 ++ wsX50 ++ wsX30 ++ wsX40)
def wsX7_begins : List Cond := .code yX7_begins cX7_begins 3 none :: ([.fieldLink RX7 7 "RippleCountsModel" "s" "[I"] ++ wsX70)
def wsX7_init : List Cond := .code yX7_init cX7_init 2 none :: ([.methodLink RX7 1 objectInit, .instanceMethod objectInit, .code objectInit ⟨#[0xb1]⟩ 1 none, .arrayClass .int, .fieldLink RX7 7 "RippleCountsModel" "s" "[I", .fieldLink RX7 13 "RippleCountsModel" "past" "[I", .fieldLink RX7 16 "RippleCountsModel" "slots" "[I", .arrayClass .boolean, .fieldLink RX7 19 "RippleCountsModel" "isSaved" "[Z", .fieldLink RX7 23 "RippleCountsModel" "pad" "[I", .methodLink RX7 26 yX7_begins, .instanceMethod yX7_begins, .selects RX7 yX7_begins yX7_begins, .initialized RX7, .code yX7_begins cX7_begins 3 none] ++ wsX70)
def wsX7_in : List Cond := .code yX7_in cX7_in 3 (some .boolean) :: ([])
def wsX7_remembers : List Cond := .code yX7_remembers cX7_remembers 2 none :: ([.fieldLink RX7 30 "RippleCountsModel" "known" "I", .fieldLink RX7 13 "RippleCountsModel" "past" "[I", .fieldLink RX7 7 "RippleCountsModel" "s" "[I"] ++ wsX70)
def wsX7_copies : List Cond := .code yX7_copies cX7_copies 2 none :: ([.fieldLink RX7 7 "RippleCountsModel" "s" "[I"] ++ wsX70)
def wsX7_stages : List Cond := .code yX7_stages cX7_stages 2 (some .int) :: ([.fieldLink RX7 7 "RippleCountsModel" "s" "[I"] ++ wsX70)
def wsX7_due : List Cond := .code yX7_due cX7_due 3 (some .int) :: ([])
def wsX7_shows : List Cond := .code yX7_shows cX7_shows 4 (some .int) :: ([.fieldLink RX7 7 "RippleCountsModel" "s" "[I", .methodLink RX7 34 yX7_stages, .instanceMethod yX7_stages, .selects RX7 yX7_stages yX7_stages, .initialized RX7, .code yX7_stages cX7_stages 2 (some .int)] ++ wsX70)
def wsX7_onWay : List Cond := .code yX7_onWay cX7_onWay 5 (some .int) :: ([.fieldLink RX7 7 "RippleCountsModel" "s" "[I", .methodLink RX7 38 yX7_due, .static yX7_due, .initialized RX7, .code yX7_due cX7_due 3 (some .int)] ++ wsX70)
def wsX7_allOnWay : List Cond := .code yX7_allOnWay cX7_allOnWay 4 (some .int) :: ([.methodLink RX7 34 yX7_stages, .instanceMethod yX7_stages, .selects RX7 yX7_stages yX7_stages, .initialized RX7, .code yX7_stages cX7_stages 2 (some .int), .fieldLink RX7 7 "RippleCountsModel" "s" "[I", .methodLink RX7 42 yX7_onWay, .instanceMethod yX7_onWay, .selects RX7 yX7_onWay yX7_onWay, .code yX7_onWay cX7_onWay 5 (some .int), .methodLink RX7 38 yX7_due, .static yX7_due, .code yX7_due cX7_due 3 (some .int)] ++ wsX70)
def wsX7_turns : List Cond := .code yX7_turns cX7_turns 3 none :: ([.fieldLink RX7 7 "RippleCountsModel" "s" "[I", .methodLink RX7 38 yX7_due, .static yX7_due, .initialized RX7, .code yX7_due cX7_due 3 (some .int)] ++ wsX70)
def wsX7_clocks : List Cond := .code yX7_clocks cX7_clocks 2 none :: ([.fieldLink RX7 7 "RippleCountsModel" "s" "[I", .methodLink RX7 34 yX7_stages, .instanceMethod yX7_stages, .selects RX7 yX7_stages yX7_stages, .initialized RX7, .code yX7_stages cX7_stages 2 (some .int), .methodLink RX7 46 yX7_turns, .instanceMethod yX7_turns, .selects RX7 yX7_turns yX7_turns, .code yX7_turns cX7_turns 3 none, .methodLink RX7 38 yX7_due, .static yX7_due, .code yX7_due cX7_due 3 (some .int)] ++ wsX70)
def wsX7_done : List Cond := .code yX7_done cX7_done 3 none :: ([.fieldLink RX7 7 "RippleCountsModel" "s" "[I", .methodLink RX7 34 yX7_stages, .instanceMethod yX7_stages, .selects RX7 yX7_stages yX7_stages, .initialized RX7, .code yX7_stages cX7_stages 2 (some .int), .methodLink RX7 46 yX7_turns, .instanceMethod yX7_turns, .selects RX7 yX7_turns yX7_turns, .code yX7_turns cX7_turns 3 none, .methodLink RX7 38 yX7_due, .static yX7_due, .code yX7_due cX7_due 3 (some .int)] ++ wsX70)
def wsX7_sees : List Cond := .code yX7_sees cX7_sees 5 none :: ([.fieldLink RX7 7 "RippleCountsModel" "s" "[I", .methodLink RX7 50 yX7_shows, .instanceMethod yX7_shows, .selects RX7 yX7_shows yX7_shows, .initialized RX7, .code yX7_shows cX7_shows 4 (some .int), .methodLink RX7 34 yX7_stages, .instanceMethod yX7_stages, .selects RX7 yX7_stages yX7_stages, .code yX7_stages cX7_stages 2 (some .int)] ++ wsX70)
def wsX7_reads : List Cond := .code yX7_reads cX7_reads 3 none :: ([.fieldLink RX7 7 "RippleCountsModel" "s" "[I", .methodLink RX7 50 yX7_shows, .instanceMethod yX7_shows, .selects RX7 yX7_shows yX7_shows, .initialized RX7, .code yX7_shows cX7_shows 4 (some .int), .methodLink RX7 34 yX7_stages, .instanceMethod yX7_stages, .selects RX7 yX7_stages yX7_stages, .code yX7_stages cX7_stages 2 (some .int)] ++ wsX70)
def wsX7_passesOne_r1 : List Cond := [Cond.fieldLink RX7 7 "RippleCountsModel" "s" "[I", Cond.methodLink RX7 34 yX7_stages, Cond.instanceMethod yX7_stages, Cond.selects RX7 yX7_stages yX7_stages, Cond.initialized RX7, Cond.code yX7_stages cX7_stages 2 (some .int), Cond.methodLink RX7 38 yX7_due, Cond.static yX7_due, Cond.code yX7_due cX7_due 3 (some .int), Cond.methodLink RX7 53 yX7_done, Cond.instanceMethod yX7_done, Cond.selects RX7 yX7_done yX7_done, Cond.code yX7_done cX7_done 3 none, Cond.methodLink RX7 46 yX7_turns, Cond.instanceMethod yX7_turns, Cond.selects RX7 yX7_turns yX7_turns, Cond.code yX7_turns cX7_turns 3 none, Cond.methodLink RX7 56 yX7_sees, Cond.instanceMethod yX7_sees, Cond.selects RX7 yX7_sees yX7_sees, Cond.code yX7_sees cX7_sees 5 none, Cond.methodLink RX7 50 yX7_shows, Cond.instanceMethod yX7_shows, Cond.selects RX7 yX7_shows yX7_shows]
def wsX7_passesOne_r2 : List Cond := [Cond.code yX7_shows cX7_shows 4 (some .int), Cond.methodLink RX7 59 yX7_allOnWay, Cond.instanceMethod yX7_allOnWay, Cond.selects RX7 yX7_allOnWay yX7_allOnWay, Cond.code yX7_allOnWay cX7_allOnWay 4 (some .int), Cond.methodLink RX7 42 yX7_onWay, Cond.instanceMethod yX7_onWay, Cond.selects RX7 yX7_onWay yX7_onWay, Cond.code yX7_onWay cX7_onWay 5 (some .int), Cond.methodLink RX7 62 yX7_reads, Cond.instanceMethod yX7_reads, Cond.selects RX7 yX7_reads yX7_reads, Cond.code yX7_reads cX7_reads 3 none]
def wsX7_passesOne : List Cond := .code yX7_passesOne cX7_passesOne 5 (some .int) :: ((wsX7_passesOne_r1 ++ wsX7_passesOne_r2) ++ wsX70)
def wsX7_passes_r1 : List Cond := [Cond.methodLink RX7 65 yX7_passesOne, Cond.instanceMethod yX7_passesOne, Cond.selects RX7 yX7_passesOne yX7_passesOne, Cond.initialized RX7, Cond.code yX7_passesOne cX7_passesOne 5 (some .int), Cond.fieldLink RX7 7 "RippleCountsModel" "s" "[I", Cond.methodLink RX7 34 yX7_stages, Cond.instanceMethod yX7_stages, Cond.selects RX7 yX7_stages yX7_stages, Cond.code yX7_stages cX7_stages 2 (some .int), Cond.methodLink RX7 38 yX7_due, Cond.static yX7_due, Cond.code yX7_due cX7_due 3 (some .int), Cond.methodLink RX7 53 yX7_done, Cond.instanceMethod yX7_done, Cond.selects RX7 yX7_done yX7_done, Cond.code yX7_done cX7_done 3 none, Cond.methodLink RX7 46 yX7_turns, Cond.instanceMethod yX7_turns, Cond.selects RX7 yX7_turns yX7_turns, Cond.code yX7_turns cX7_turns 3 none, Cond.methodLink RX7 56 yX7_sees, Cond.instanceMethod yX7_sees, Cond.selects RX7 yX7_sees yX7_sees]
def wsX7_passes_r2 : List Cond := [Cond.code yX7_sees cX7_sees 5 none, Cond.methodLink RX7 50 yX7_shows, Cond.instanceMethod yX7_shows, Cond.selects RX7 yX7_shows yX7_shows, Cond.code yX7_shows cX7_shows 4 (some .int), Cond.methodLink RX7 59 yX7_allOnWay, Cond.instanceMethod yX7_allOnWay, Cond.selects RX7 yX7_allOnWay yX7_allOnWay, Cond.code yX7_allOnWay cX7_allOnWay 4 (some .int), Cond.methodLink RX7 42 yX7_onWay, Cond.instanceMethod yX7_onWay, Cond.selects RX7 yX7_onWay yX7_onWay, Cond.code yX7_onWay cX7_onWay 5 (some .int), Cond.methodLink RX7 62 yX7_reads, Cond.instanceMethod yX7_reads, Cond.selects RX7 yX7_reads yX7_reads, Cond.code yX7_reads cX7_reads 3 none]
def wsX7_passes : List Cond := .code yX7_passes cX7_passes 5 (some .int) :: ((wsX7_passes_r1 ++ wsX7_passes_r2) ++ wsX70)
def wsX7_clockNow : List Cond := .code yX7_clockNow cX7_clockNow 1 (some .int) :: ([.fieldLink RX7 7 "RippleCountsModel" "s" "[I", .methodLink RX7 68 yX7_clocks, .instanceMethod yX7_clocks, .selects RX7 yX7_clocks yX7_clocks, .initialized RX7, .code yX7_clocks cX7_clocks 2 none, .methodLink RX7 34 yX7_stages, .instanceMethod yX7_stages, .selects RX7 yX7_stages yX7_stages, .code yX7_stages cX7_stages 2 (some .int), .methodLink RX7 46 yX7_turns, .instanceMethod yX7_turns, .selects RX7 yX7_turns yX7_turns, .code yX7_turns cX7_turns 3 none, .methodLink RX7 38 yX7_due, .static yX7_due, .code yX7_due cX7_due 3 (some .int)] ++ wsX70)
def wsX7_whyNotPass : List Cond := .code yX7_whyNotPass cX7_whyNotPass 2 (some .int) :: ([.fieldLink RX7 7 "RippleCountsModel" "s" "[I", .methodLink RX7 71 yX7_in, .static yX7_in, .initialized RX7, .code yX7_in cX7_in 3 (some .boolean)] ++ wsX70)
def wsX7_whyNotDelay : List Cond := .code yX7_whyNotDelay cX7_whyNotDelay 3 (some .int) :: ([.methodLink RX7 34 yX7_stages, .instanceMethod yX7_stages, .selects RX7 yX7_stages yX7_stages, .initialized RX7, .code yX7_stages cX7_stages 2 (some .int), .fieldLink RX7 7 "RippleCountsModel" "s" "[I", .methodLink RX7 71 yX7_in, .static yX7_in, .code yX7_in cX7_in 3 (some .boolean)] ++ wsX70)
def wsX7_whyNotRead : List Cond := .code yX7_whyNotRead cX7_whyNotRead 1 (some .int) :: ([.fieldLink RX7 7 "RippleCountsModel" "s" "[I"] ++ wsX70)
def wsX7_whyNotLatch : List Cond := .code yX7_whyNotLatch cX7_whyNotLatch 1 (some .int) :: ([.fieldLink RX7 7 "RippleCountsModel" "s" "[I", .methodLink RX7 75 yX7_whyNotRead, .instanceMethod yX7_whyNotRead, .selects RX7 yX7_whyNotRead yX7_whyNotRead, .initialized RX7, .code yX7_whyNotRead cX7_whyNotRead 1 (some .int)] ++ wsX70)
def wsX7_set : List Cond := .code yX7_set cX7_set 5 (some .int) :: ([.fieldLink RX7 7 "RippleCountsModel" "s" "[I", .methodLink RX7 71 yX7_in, .static yX7_in, .initialized RX7, .code yX7_in cX7_in 3 (some .boolean), .methodLink RX7 79 yX7_remembers, .instanceMethod yX7_remembers, .selects RX7 yX7_remembers yX7_remembers, .code yX7_remembers cX7_remembers 2 none, .fieldLink RX7 30 "RippleCountsModel" "known" "I", .fieldLink RX7 13 "RippleCountsModel" "past" "[I", .methodLink RX7 26 yX7_begins, .instanceMethod yX7_begins, .selects RX7 yX7_begins yX7_begins, .code yX7_begins cX7_begins 3 none] ++ wsX70)
def wsX7_delay : List Cond := .code yX7_delay cX7_delay 5 (some .int) :: ([.fieldLink RX7 7 "RippleCountsModel" "s" "[I", .methodLink RX7 82 yX7_whyNotDelay, .instanceMethod yX7_whyNotDelay, .selects RX7 yX7_whyNotDelay yX7_whyNotDelay, .initialized RX7, .code yX7_whyNotDelay cX7_whyNotDelay 3 (some .int), .methodLink RX7 34 yX7_stages, .instanceMethod yX7_stages, .selects RX7 yX7_stages yX7_stages, .code yX7_stages cX7_stages 2 (some .int), .methodLink RX7 71 yX7_in, .static yX7_in, .code yX7_in cX7_in 3 (some .boolean), .methodLink RX7 79 yX7_remembers, .instanceMethod yX7_remembers, .selects RX7 yX7_remembers yX7_remembers, .code yX7_remembers cX7_remembers 2 none, .fieldLink RX7 30 "RippleCountsModel" "known" "I", .fieldLink RX7 13 "RippleCountsModel" "past" "[I"] ++ wsX70)
def wsX7_clock_r1 : List Cond := [Cond.fieldLink RX7 7 "RippleCountsModel" "s" "[I", Cond.methodLink RX7 79 yX7_remembers, Cond.instanceMethod yX7_remembers, Cond.selects RX7 yX7_remembers yX7_remembers, Cond.initialized RX7, Cond.code yX7_remembers cX7_remembers 2 none, Cond.fieldLink RX7 30 "RippleCountsModel" "known" "I", Cond.fieldLink RX7 13 "RippleCountsModel" "past" "[I", Cond.methodLink RX7 85 yX7_clockNow, Cond.instanceMethod yX7_clockNow, Cond.selects RX7 yX7_clockNow yX7_clockNow, Cond.code yX7_clockNow cX7_clockNow 1 (some .int), Cond.methodLink RX7 68 yX7_clocks, Cond.instanceMethod yX7_clocks, Cond.selects RX7 yX7_clocks yX7_clocks, Cond.code yX7_clocks cX7_clocks 2 none, Cond.methodLink RX7 34 yX7_stages, Cond.instanceMethod yX7_stages, Cond.selects RX7 yX7_stages yX7_stages, Cond.code yX7_stages cX7_stages 2 (some .int), Cond.methodLink RX7 46 yX7_turns, Cond.instanceMethod yX7_turns, Cond.selects RX7 yX7_turns yX7_turns, Cond.code yX7_turns cX7_turns 3 none]
def wsX7_clock_r2 : List Cond := [Cond.methodLink RX7 38 yX7_due, Cond.static yX7_due, Cond.code yX7_due cX7_due 3 (some .int)]
def wsX7_clock : List Cond := .code yX7_clock cX7_clock 1 (some .int) :: ((wsX7_clock_r1 ++ wsX7_clock_r2) ++ wsX70)
def wsX7_pass_r1 : List Cond := [Cond.methodLink RX7 88 yX7_whyNotPass, Cond.instanceMethod yX7_whyNotPass, Cond.selects RX7 yX7_whyNotPass yX7_whyNotPass, Cond.initialized RX7, Cond.code yX7_whyNotPass cX7_whyNotPass 2 (some .int), Cond.fieldLink RX7 7 "RippleCountsModel" "s" "[I", Cond.methodLink RX7 71 yX7_in, Cond.static yX7_in, Cond.code yX7_in cX7_in 3 (some .boolean), Cond.methodLink RX7 79 yX7_remembers, Cond.instanceMethod yX7_remembers, Cond.selects RX7 yX7_remembers yX7_remembers, Cond.code yX7_remembers cX7_remembers 2 none, Cond.fieldLink RX7 30 "RippleCountsModel" "known" "I", Cond.fieldLink RX7 13 "RippleCountsModel" "past" "[I", Cond.methodLink RX7 91 yX7_passes, Cond.instanceMethod yX7_passes, Cond.selects RX7 yX7_passes yX7_passes, Cond.code yX7_passes cX7_passes 5 (some .int), Cond.methodLink RX7 65 yX7_passesOne, Cond.instanceMethod yX7_passesOne, Cond.selects RX7 yX7_passesOne yX7_passesOne, Cond.code yX7_passesOne cX7_passesOne 5 (some .int), Cond.methodLink RX7 34 yX7_stages]
def wsX7_pass_r2 : List Cond := [Cond.instanceMethod yX7_stages, Cond.selects RX7 yX7_stages yX7_stages, Cond.code yX7_stages cX7_stages 2 (some .int), Cond.methodLink RX7 38 yX7_due, Cond.static yX7_due, Cond.code yX7_due cX7_due 3 (some .int), Cond.methodLink RX7 53 yX7_done, Cond.instanceMethod yX7_done, Cond.selects RX7 yX7_done yX7_done, Cond.code yX7_done cX7_done 3 none, Cond.methodLink RX7 46 yX7_turns, Cond.instanceMethod yX7_turns, Cond.selects RX7 yX7_turns yX7_turns, Cond.code yX7_turns cX7_turns 3 none, Cond.methodLink RX7 56 yX7_sees, Cond.instanceMethod yX7_sees, Cond.selects RX7 yX7_sees yX7_sees, Cond.code yX7_sees cX7_sees 5 none, Cond.methodLink RX7 50 yX7_shows, Cond.instanceMethod yX7_shows, Cond.selects RX7 yX7_shows yX7_shows, Cond.code yX7_shows cX7_shows 4 (some .int), Cond.methodLink RX7 59 yX7_allOnWay, Cond.instanceMethod yX7_allOnWay]
def wsX7_pass_r3 : List Cond := [Cond.selects RX7 yX7_allOnWay yX7_allOnWay, Cond.code yX7_allOnWay cX7_allOnWay 4 (some .int), Cond.methodLink RX7 42 yX7_onWay, Cond.instanceMethod yX7_onWay, Cond.selects RX7 yX7_onWay yX7_onWay, Cond.code yX7_onWay cX7_onWay 5 (some .int), Cond.methodLink RX7 62 yX7_reads, Cond.instanceMethod yX7_reads, Cond.selects RX7 yX7_reads yX7_reads, Cond.code yX7_reads cX7_reads 3 none]
def wsX7_pass : List Cond := .code yX7_pass cX7_pass 3 (some .int) :: ((wsX7_pass_r1 ++ (wsX7_pass_r2 ++ wsX7_pass_r3)) ++ wsX70)
def wsX7_read : List Cond := .code yX7_read cX7_read 1 (some .int) :: ([.methodLink RX7 75 yX7_whyNotRead, .instanceMethod yX7_whyNotRead, .selects RX7 yX7_whyNotRead yX7_whyNotRead, .initialized RX7, .code yX7_whyNotRead cX7_whyNotRead 1 (some .int), .fieldLink RX7 7 "RippleCountsModel" "s" "[I", .methodLink RX7 79 yX7_remembers, .instanceMethod yX7_remembers, .selects RX7 yX7_remembers yX7_remembers, .code yX7_remembers cX7_remembers 2 none, .fieldLink RX7 30 "RippleCountsModel" "known" "I", .fieldLink RX7 13 "RippleCountsModel" "past" "[I", .methodLink RX7 62 yX7_reads, .instanceMethod yX7_reads, .selects RX7 yX7_reads yX7_reads, .code yX7_reads cX7_reads 3 none, .methodLink RX7 50 yX7_shows, .instanceMethod yX7_shows, .selects RX7 yX7_shows yX7_shows, .code yX7_shows cX7_shows 4 (some .int), .methodLink RX7 34 yX7_stages, .instanceMethod yX7_stages, .selects RX7 yX7_stages yX7_stages, .code yX7_stages cX7_stages 2 (some .int)] ++ wsX70)
def wsX7_latch : List Cond := .code yX7_latch cX7_latch 2 (some .int) :: ([.fieldLink RX7 7 "RippleCountsModel" "s" "[I", .methodLink RX7 94 yX7_whyNotLatch, .instanceMethod yX7_whyNotLatch, .selects RX7 yX7_whyNotLatch yX7_whyNotLatch, .initialized RX7, .code yX7_whyNotLatch cX7_whyNotLatch 1 (some .int), .methodLink RX7 75 yX7_whyNotRead, .instanceMethod yX7_whyNotRead, .selects RX7 yX7_whyNotRead yX7_whyNotRead, .code yX7_whyNotRead cX7_whyNotRead 1 (some .int), .methodLink RX7 79 yX7_remembers, .instanceMethod yX7_remembers, .selects RX7 yX7_remembers yX7_remembers, .code yX7_remembers cX7_remembers 2 none, .fieldLink RX7 30 "RippleCountsModel" "known" "I", .fieldLink RX7 13 "RippleCountsModel" "past" "[I"] ++ wsX70)
def wsX7_nextDue : List Cond := .code yX7_nextDue cX7_nextDue 3 (some .int) :: ([.fieldLink RX7 7 "RippleCountsModel" "s" "[I", .methodLink RX7 38 yX7_due, .static yX7_due, .initialized RX7, .code yX7_due cX7_due 3 (some .int)] ++ wsX70)
def wsX7_of : List Cond := .code yX7_of cX7_of 3 (some .int) :: ([.fieldLink RX7 7 "RippleCountsModel" "s" "[I", .methodLink RX7 34 yX7_stages, .instanceMethod yX7_stages, .selects RX7 yX7_stages yX7_stages, .initialized RX7, .code yX7_stages cX7_stages 2 (some .int), .methodLink RX7 71 yX7_in, .static yX7_in, .code yX7_in cX7_in 3 (some .boolean), .methodLink RX7 42 yX7_onWay, .instanceMethod yX7_onWay, .selects RX7 yX7_onWay yX7_onWay, .code yX7_onWay cX7_onWay 5 (some .int), .methodLink RX7 38 yX7_due, .static yX7_due, .code yX7_due cX7_due 3 (some .int), .methodLink RX7 97 yX7_nextDue, .instanceMethod yX7_nextDue, .selects RX7 yX7_nextDue yX7_nextDue, .code yX7_nextDue cX7_nextDue 3 (some .int)] ++ wsX70)
def wsX7_ofReading : List Cond := .code yX7_ofReading cX7_ofReading 6 (some .int) :: ([.fieldLink RX7 7 "RippleCountsModel" "s" "[I"] ++ wsX70)
def wsX7_reading : List Cond := .code yX7_reading cX7_reading 3 (some .int) :: ([.fieldLink RX7 7 "RippleCountsModel" "s" "[I", .methodLink RX7 71 yX7_in, .static yX7_in, .initialized RX7, .code yX7_in cX7_in 3 (some .boolean), .methodLink RX7 100 yX7_ofReading, .instanceMethod yX7_ofReading, .selects RX7 yX7_ofReading yX7_ofReading, .code yX7_ofReading cX7_ofReading 6 (some .int)] ++ wsX70)
def wsX7_seen : List Cond := .code yX7_seen cX7_seen 3 (some .int) :: ([.fieldLink RX7 7 "RippleCountsModel" "s" "[I", .methodLink RX7 71 yX7_in, .static yX7_in, .initialized RX7, .code yX7_in cX7_in 3 (some .boolean)] ++ wsX70)
def wsX7_trueReadings : List Cond := .code yX7_trueReadings cX7_trueReadings 3 (some .int) :: ([.fieldLink RX7 7 "RippleCountsModel" "s" "[I", .methodLink RX7 100 yX7_ofReading, .instanceMethod yX7_ofReading, .selects RX7 yX7_ofReading yX7_ofReading, .initialized RX7, .code yX7_ofReading cX7_ofReading 6 (some .int)] ++ wsX70)
def wsX7_numbers : List Cond := .code yX7_numbers cX7_numbers 4 (some .int) :: ([.fieldLink RX7 7 "RippleCountsModel" "s" "[I"] ++ wsX70)
def wsX7_count_r1 : List Cond := [Cond.fieldLink RX7 7 "RippleCountsModel" "s" "[I", Cond.fieldLink RX7 109 "RippleCountsModel" "length" "I", Cond.fieldLink RX7 30 "RippleCountsModel" "known" "I", Cond.methodLink RX7 50 yX7_shows, Cond.instanceMethod yX7_shows, Cond.selects RX7 yX7_shows yX7_shows, Cond.initialized RX7, Cond.code yX7_shows cX7_shows 4 (some .int), Cond.methodLink RX7 34 yX7_stages, Cond.instanceMethod yX7_stages, Cond.selects RX7 yX7_stages yX7_stages, Cond.code yX7_stages cX7_stages 2 (some .int), Cond.methodLink RX7 59 yX7_allOnWay, Cond.instanceMethod yX7_allOnWay, Cond.selects RX7 yX7_allOnWay yX7_allOnWay, Cond.code yX7_allOnWay cX7_allOnWay 4 (some .int), Cond.methodLink RX7 42 yX7_onWay, Cond.instanceMethod yX7_onWay, Cond.selects RX7 yX7_onWay yX7_onWay, Cond.code yX7_onWay cX7_onWay 5 (some .int), Cond.methodLink RX7 38 yX7_due, Cond.static yX7_due, Cond.code yX7_due cX7_due 3 (some .int), Cond.methodLink RX7 103 yX7_trueReadings]
def wsX7_count_r2 : List Cond := [Cond.instanceMethod yX7_trueReadings, Cond.selects RX7 yX7_trueReadings yX7_trueReadings, Cond.code yX7_trueReadings cX7_trueReadings 3 (some .int), Cond.methodLink RX7 100 yX7_ofReading, Cond.instanceMethod yX7_ofReading, Cond.selects RX7 yX7_ofReading yX7_ofReading, Cond.code yX7_ofReading cX7_ofReading 6 (some .int), Cond.methodLink RX7 106 yX7_numbers, Cond.instanceMethod yX7_numbers, Cond.selects RX7 yX7_numbers yX7_numbers, Cond.code yX7_numbers cX7_numbers 4 (some .int)]
def wsX7_count : List Cond := .code yX7_count cX7_count 2 (some .int) :: ((wsX7_count_r1 ++ wsX7_count_r2) ++ wsX70)
def wsX7_stillIn_r1 : List Cond := [Cond.methodLink RX7 112 yX7_copies, Cond.instanceMethod yX7_copies, Cond.selects RX7 yX7_copies yX7_copies, Cond.initialized RX7, Cond.code yX7_copies cX7_copies 2 none, Cond.fieldLink RX7 7 "RippleCountsModel" "s" "[I", Cond.methodLink RX7 59 yX7_allOnWay, Cond.instanceMethod yX7_allOnWay, Cond.selects RX7 yX7_allOnWay yX7_allOnWay, Cond.code yX7_allOnWay cX7_allOnWay 4 (some .int), Cond.methodLink RX7 34 yX7_stages, Cond.instanceMethod yX7_stages, Cond.selects RX7 yX7_stages yX7_stages, Cond.code yX7_stages cX7_stages 2 (some .int), Cond.methodLink RX7 42 yX7_onWay, Cond.instanceMethod yX7_onWay, Cond.selects RX7 yX7_onWay yX7_onWay, Cond.code yX7_onWay cX7_onWay 5 (some .int), Cond.methodLink RX7 38 yX7_due, Cond.static yX7_due, Cond.code yX7_due cX7_due 3 (some .int), Cond.methodLink RX7 65 yX7_passesOne, Cond.instanceMethod yX7_passesOne, Cond.selects RX7 yX7_passesOne yX7_passesOne]
def wsX7_stillIn_r2 : List Cond := [Cond.code yX7_passesOne cX7_passesOne 5 (some .int), Cond.methodLink RX7 53 yX7_done, Cond.instanceMethod yX7_done, Cond.selects RX7 yX7_done yX7_done, Cond.code yX7_done cX7_done 3 none, Cond.methodLink RX7 46 yX7_turns, Cond.instanceMethod yX7_turns, Cond.selects RX7 yX7_turns yX7_turns, Cond.code yX7_turns cX7_turns 3 none, Cond.methodLink RX7 56 yX7_sees, Cond.instanceMethod yX7_sees, Cond.selects RX7 yX7_sees yX7_sees, Cond.code yX7_sees cX7_sees 5 none, Cond.methodLink RX7 50 yX7_shows, Cond.instanceMethod yX7_shows, Cond.selects RX7 yX7_shows yX7_shows, Cond.code yX7_shows cX7_shows 4 (some .int), Cond.methodLink RX7 62 yX7_reads, Cond.instanceMethod yX7_reads, Cond.selects RX7 yX7_reads yX7_reads, Cond.code yX7_reads cX7_reads 3 none]
def wsX7_stillIn : List Cond := .code yX7_stillIn cX7_stillIn 3 (some .int) :: ((wsX7_stillIn_r1 ++ wsX7_stillIn_r2) ++ wsX70)
def wsX7_showsIn_r1 : List Cond := [Cond.methodLink RX7 71 yX7_in, Cond.static yX7_in, Cond.initialized RX7, Cond.code yX7_in cX7_in 3 (some .boolean), Cond.methodLink RX7 112 yX7_copies, Cond.instanceMethod yX7_copies, Cond.selects RX7 yX7_copies yX7_copies, Cond.code yX7_copies cX7_copies 2 none, Cond.fieldLink RX7 7 "RippleCountsModel" "s" "[I", Cond.methodLink RX7 91 yX7_passes, Cond.instanceMethod yX7_passes, Cond.selects RX7 yX7_passes yX7_passes, Cond.code yX7_passes cX7_passes 5 (some .int), Cond.methodLink RX7 65 yX7_passesOne, Cond.instanceMethod yX7_passesOne, Cond.selects RX7 yX7_passesOne yX7_passesOne, Cond.code yX7_passesOne cX7_passesOne 5 (some .int), Cond.methodLink RX7 34 yX7_stages, Cond.instanceMethod yX7_stages, Cond.selects RX7 yX7_stages yX7_stages, Cond.code yX7_stages cX7_stages 2 (some .int), Cond.methodLink RX7 38 yX7_due, Cond.static yX7_due, Cond.code yX7_due cX7_due 3 (some .int)]
def wsX7_showsIn_r2 : List Cond := [Cond.methodLink RX7 53 yX7_done, Cond.instanceMethod yX7_done, Cond.selects RX7 yX7_done yX7_done, Cond.code yX7_done cX7_done 3 none, Cond.methodLink RX7 46 yX7_turns, Cond.instanceMethod yX7_turns, Cond.selects RX7 yX7_turns yX7_turns, Cond.code yX7_turns cX7_turns 3 none, Cond.methodLink RX7 56 yX7_sees, Cond.instanceMethod yX7_sees, Cond.selects RX7 yX7_sees yX7_sees, Cond.code yX7_sees cX7_sees 5 none, Cond.methodLink RX7 50 yX7_shows, Cond.instanceMethod yX7_shows, Cond.selects RX7 yX7_shows yX7_shows, Cond.code yX7_shows cX7_shows 4 (some .int), Cond.methodLink RX7 59 yX7_allOnWay, Cond.instanceMethod yX7_allOnWay, Cond.selects RX7 yX7_allOnWay yX7_allOnWay, Cond.code yX7_allOnWay cX7_allOnWay 4 (some .int), Cond.methodLink RX7 42 yX7_onWay, Cond.instanceMethod yX7_onWay, Cond.selects RX7 yX7_onWay yX7_onWay, Cond.code yX7_onWay cX7_onWay 5 (some .int)]
def wsX7_showsIn_r3 : List Cond := [Cond.methodLink RX7 62 yX7_reads, Cond.instanceMethod yX7_reads, Cond.selects RX7 yX7_reads yX7_reads, Cond.code yX7_reads cX7_reads 3 none]
def wsX7_showsIn : List Cond := .code yX7_showsIn cX7_showsIn 3 (some .int) :: ((wsX7_showsIn_r1 ++ (wsX7_showsIn_r2 ++ wsX7_showsIn_r3)) ++ wsX70)
def wsX7_wrongWith_r1 : List Cond := [Cond.fieldLink RX7 7 "RippleCountsModel" "s" "[I", Cond.methodLink RX7 26 yX7_begins, Cond.instanceMethod yX7_begins, Cond.selects RX7 yX7_begins yX7_begins, Cond.initialized RX7, Cond.code yX7_begins cX7_begins 3 none, Cond.methodLink RX7 34 yX7_stages, Cond.instanceMethod yX7_stages, Cond.selects RX7 yX7_stages yX7_stages, Cond.code yX7_stages cX7_stages 2 (some .int), Cond.methodLink RX7 68 yX7_clocks, Cond.instanceMethod yX7_clocks, Cond.selects RX7 yX7_clocks yX7_clocks, Cond.code yX7_clocks cX7_clocks 2 none, Cond.methodLink RX7 46 yX7_turns, Cond.instanceMethod yX7_turns, Cond.selects RX7 yX7_turns yX7_turns, Cond.code yX7_turns cX7_turns 3 none, Cond.methodLink RX7 38 yX7_due, Cond.static yX7_due, Cond.code yX7_due cX7_due 3 (some .int), Cond.methodLink RX7 91 yX7_passes, Cond.instanceMethod yX7_passes, Cond.selects RX7 yX7_passes yX7_passes]
def wsX7_wrongWith_r2 : List Cond := [Cond.code yX7_passes cX7_passes 5 (some .int), Cond.methodLink RX7 65 yX7_passesOne, Cond.instanceMethod yX7_passesOne, Cond.selects RX7 yX7_passesOne yX7_passesOne, Cond.code yX7_passesOne cX7_passesOne 5 (some .int), Cond.methodLink RX7 53 yX7_done, Cond.instanceMethod yX7_done, Cond.selects RX7 yX7_done yX7_done, Cond.code yX7_done cX7_done 3 none, Cond.methodLink RX7 56 yX7_sees, Cond.instanceMethod yX7_sees, Cond.selects RX7 yX7_sees yX7_sees, Cond.code yX7_sees cX7_sees 5 none, Cond.methodLink RX7 50 yX7_shows, Cond.instanceMethod yX7_shows, Cond.selects RX7 yX7_shows yX7_shows, Cond.code yX7_shows cX7_shows 4 (some .int), Cond.methodLink RX7 59 yX7_allOnWay, Cond.instanceMethod yX7_allOnWay, Cond.selects RX7 yX7_allOnWay yX7_allOnWay, Cond.code yX7_allOnWay cX7_allOnWay 4 (some .int), Cond.methodLink RX7 42 yX7_onWay, Cond.instanceMethod yX7_onWay, Cond.selects RX7 yX7_onWay yX7_onWay]
def wsX7_wrongWith_r3 : List Cond := [Cond.code yX7_onWay cX7_onWay 5 (some .int), Cond.methodLink RX7 62 yX7_reads, Cond.instanceMethod yX7_reads, Cond.selects RX7 yX7_reads yX7_reads, Cond.code yX7_reads cX7_reads 3 none]
def wsX7_wrongWith : List Cond := .code yX7_wrongWith cX7_wrongWith 5 (some .int) :: ((wsX7_wrongWith_r1 ++ (wsX7_wrongWith_r2 ++ wsX7_wrongWith_r3)) ++ wsX70)
def wsX7_wrong_r1 : List Cond := [Cond.methodLink RX7 71 yX7_in, Cond.static yX7_in, Cond.initialized RX7, Cond.code yX7_in cX7_in 3 (some .boolean), Cond.methodLink RX7 112 yX7_copies, Cond.instanceMethod yX7_copies, Cond.selects RX7 yX7_copies yX7_copies, Cond.code yX7_copies cX7_copies 2 none, Cond.fieldLink RX7 7 "RippleCountsModel" "s" "[I", Cond.methodLink RX7 115 yX7_wrongWith, Cond.instanceMethod yX7_wrongWith, Cond.selects RX7 yX7_wrongWith yX7_wrongWith, Cond.code yX7_wrongWith cX7_wrongWith 5 (some .int), Cond.methodLink RX7 26 yX7_begins, Cond.instanceMethod yX7_begins, Cond.selects RX7 yX7_begins yX7_begins, Cond.code yX7_begins cX7_begins 3 none, Cond.methodLink RX7 34 yX7_stages, Cond.instanceMethod yX7_stages, Cond.selects RX7 yX7_stages yX7_stages, Cond.code yX7_stages cX7_stages 2 (some .int), Cond.methodLink RX7 68 yX7_clocks, Cond.instanceMethod yX7_clocks, Cond.selects RX7 yX7_clocks yX7_clocks]
def wsX7_wrong_r2 : List Cond := [Cond.code yX7_clocks cX7_clocks 2 none, Cond.methodLink RX7 46 yX7_turns, Cond.instanceMethod yX7_turns, Cond.selects RX7 yX7_turns yX7_turns, Cond.code yX7_turns cX7_turns 3 none, Cond.methodLink RX7 38 yX7_due, Cond.static yX7_due, Cond.code yX7_due cX7_due 3 (some .int), Cond.methodLink RX7 91 yX7_passes, Cond.instanceMethod yX7_passes, Cond.selects RX7 yX7_passes yX7_passes, Cond.code yX7_passes cX7_passes 5 (some .int), Cond.methodLink RX7 65 yX7_passesOne, Cond.instanceMethod yX7_passesOne, Cond.selects RX7 yX7_passesOne yX7_passesOne, Cond.code yX7_passesOne cX7_passesOne 5 (some .int), Cond.methodLink RX7 53 yX7_done, Cond.instanceMethod yX7_done, Cond.selects RX7 yX7_done yX7_done, Cond.code yX7_done cX7_done 3 none, Cond.methodLink RX7 56 yX7_sees, Cond.instanceMethod yX7_sees, Cond.selects RX7 yX7_sees yX7_sees, Cond.code yX7_sees cX7_sees 5 none]
def wsX7_wrong_r3 : List Cond := [Cond.methodLink RX7 50 yX7_shows, Cond.instanceMethod yX7_shows, Cond.selects RX7 yX7_shows yX7_shows, Cond.code yX7_shows cX7_shows 4 (some .int), Cond.methodLink RX7 59 yX7_allOnWay, Cond.instanceMethod yX7_allOnWay, Cond.selects RX7 yX7_allOnWay yX7_allOnWay, Cond.code yX7_allOnWay cX7_allOnWay 4 (some .int), Cond.methodLink RX7 42 yX7_onWay, Cond.instanceMethod yX7_onWay, Cond.selects RX7 yX7_onWay yX7_onWay, Cond.code yX7_onWay cX7_onWay 5 (some .int), Cond.methodLink RX7 62 yX7_reads, Cond.instanceMethod yX7_reads, Cond.selects RX7 yX7_reads yX7_reads, Cond.code yX7_reads cX7_reads 3 none]
def wsX7_wrong : List Cond := .code yX7_wrong cX7_wrong 2 (some .int) :: ((wsX7_wrong_r1 ++ (wsX7_wrong_r2 ++ wsX7_wrong_r3)) ++ wsX70)
def wsX7_safe_r1 : List Cond := [Cond.methodLink RX7 115 yX7_wrongWith, Cond.instanceMethod yX7_wrongWith, Cond.selects RX7 yX7_wrongWith yX7_wrongWith, Cond.initialized RX7, Cond.code yX7_wrongWith cX7_wrongWith 5 (some .int), Cond.fieldLink RX7 7 "RippleCountsModel" "s" "[I", Cond.methodLink RX7 26 yX7_begins, Cond.instanceMethod yX7_begins, Cond.selects RX7 yX7_begins yX7_begins, Cond.code yX7_begins cX7_begins 3 none, Cond.methodLink RX7 34 yX7_stages, Cond.instanceMethod yX7_stages, Cond.selects RX7 yX7_stages yX7_stages, Cond.code yX7_stages cX7_stages 2 (some .int), Cond.methodLink RX7 68 yX7_clocks, Cond.instanceMethod yX7_clocks, Cond.selects RX7 yX7_clocks yX7_clocks, Cond.code yX7_clocks cX7_clocks 2 none, Cond.methodLink RX7 46 yX7_turns, Cond.instanceMethod yX7_turns, Cond.selects RX7 yX7_turns yX7_turns, Cond.code yX7_turns cX7_turns 3 none, Cond.methodLink RX7 38 yX7_due, Cond.static yX7_due]
def wsX7_safe_r2 : List Cond := [Cond.code yX7_due cX7_due 3 (some .int), Cond.methodLink RX7 91 yX7_passes, Cond.instanceMethod yX7_passes, Cond.selects RX7 yX7_passes yX7_passes, Cond.code yX7_passes cX7_passes 5 (some .int), Cond.methodLink RX7 65 yX7_passesOne, Cond.instanceMethod yX7_passesOne, Cond.selects RX7 yX7_passesOne yX7_passesOne, Cond.code yX7_passesOne cX7_passesOne 5 (some .int), Cond.methodLink RX7 53 yX7_done, Cond.instanceMethod yX7_done, Cond.selects RX7 yX7_done yX7_done, Cond.code yX7_done cX7_done 3 none, Cond.methodLink RX7 56 yX7_sees, Cond.instanceMethod yX7_sees, Cond.selects RX7 yX7_sees yX7_sees, Cond.code yX7_sees cX7_sees 5 none, Cond.methodLink RX7 50 yX7_shows, Cond.instanceMethod yX7_shows, Cond.selects RX7 yX7_shows yX7_shows, Cond.code yX7_shows cX7_shows 4 (some .int), Cond.methodLink RX7 59 yX7_allOnWay, Cond.instanceMethod yX7_allOnWay, Cond.selects RX7 yX7_allOnWay yX7_allOnWay]
def wsX7_safe_r3 : List Cond := [Cond.code yX7_allOnWay cX7_allOnWay 4 (some .int), Cond.methodLink RX7 42 yX7_onWay, Cond.instanceMethod yX7_onWay, Cond.selects RX7 yX7_onWay yX7_onWay, Cond.code yX7_onWay cX7_onWay 5 (some .int), Cond.methodLink RX7 62 yX7_reads, Cond.instanceMethod yX7_reads, Cond.selects RX7 yX7_reads yX7_reads, Cond.code yX7_reads cX7_reads 3 none]
def wsX7_safe : List Cond := .code yX7_safe cX7_safe 2 (some .int) :: ((wsX7_safe_r1 ++ (wsX7_safe_r2 ++ wsX7_safe_r3)) ++ wsX70)
def wsX7_safeGap_r1 : List Cond := [Cond.methodLink RX7 112 yX7_copies, Cond.instanceMethod yX7_copies, Cond.selects RX7 yX7_copies yX7_copies, Cond.initialized RX7, Cond.code yX7_copies cX7_copies 2 none, Cond.fieldLink RX7 7 "RippleCountsModel" "s" "[I", Cond.methodLink RX7 118 yX7_safe, Cond.instanceMethod yX7_safe, Cond.selects RX7 yX7_safe yX7_safe, Cond.code yX7_safe cX7_safe 2 (some .int), Cond.methodLink RX7 115 yX7_wrongWith, Cond.instanceMethod yX7_wrongWith, Cond.selects RX7 yX7_wrongWith yX7_wrongWith, Cond.code yX7_wrongWith cX7_wrongWith 5 (some .int), Cond.methodLink RX7 26 yX7_begins, Cond.instanceMethod yX7_begins, Cond.selects RX7 yX7_begins yX7_begins, Cond.code yX7_begins cX7_begins 3 none, Cond.methodLink RX7 34 yX7_stages, Cond.instanceMethod yX7_stages, Cond.selects RX7 yX7_stages yX7_stages, Cond.code yX7_stages cX7_stages 2 (some .int), Cond.methodLink RX7 68 yX7_clocks, Cond.instanceMethod yX7_clocks]
def wsX7_safeGap_r2 : List Cond := [Cond.selects RX7 yX7_clocks yX7_clocks, Cond.code yX7_clocks cX7_clocks 2 none, Cond.methodLink RX7 46 yX7_turns, Cond.instanceMethod yX7_turns, Cond.selects RX7 yX7_turns yX7_turns, Cond.code yX7_turns cX7_turns 3 none, Cond.methodLink RX7 38 yX7_due, Cond.static yX7_due, Cond.code yX7_due cX7_due 3 (some .int), Cond.methodLink RX7 91 yX7_passes, Cond.instanceMethod yX7_passes, Cond.selects RX7 yX7_passes yX7_passes, Cond.code yX7_passes cX7_passes 5 (some .int), Cond.methodLink RX7 65 yX7_passesOne, Cond.instanceMethod yX7_passesOne, Cond.selects RX7 yX7_passesOne yX7_passesOne, Cond.code yX7_passesOne cX7_passesOne 5 (some .int), Cond.methodLink RX7 53 yX7_done, Cond.instanceMethod yX7_done, Cond.selects RX7 yX7_done yX7_done, Cond.code yX7_done cX7_done 3 none, Cond.methodLink RX7 56 yX7_sees, Cond.instanceMethod yX7_sees, Cond.selects RX7 yX7_sees yX7_sees]
def wsX7_safeGap_r3 : List Cond := [Cond.code yX7_sees cX7_sees 5 none, Cond.methodLink RX7 50 yX7_shows, Cond.instanceMethod yX7_shows, Cond.selects RX7 yX7_shows yX7_shows, Cond.code yX7_shows cX7_shows 4 (some .int), Cond.methodLink RX7 59 yX7_allOnWay, Cond.instanceMethod yX7_allOnWay, Cond.selects RX7 yX7_allOnWay yX7_allOnWay, Cond.code yX7_allOnWay cX7_allOnWay 4 (some .int), Cond.methodLink RX7 42 yX7_onWay, Cond.instanceMethod yX7_onWay, Cond.selects RX7 yX7_onWay yX7_onWay, Cond.code yX7_onWay cX7_onWay 5 (some .int), Cond.methodLink RX7 62 yX7_reads, Cond.instanceMethod yX7_reads, Cond.selects RX7 yX7_reads yX7_reads, Cond.code yX7_reads cX7_reads 3 none]
def wsX7_safeGap : List Cond := .code yX7_safeGap cX7_safeGap 2 (some .int) :: ((wsX7_safeGap_r1 ++ (wsX7_safeGap_r2 ++ wsX7_safeGap_r3)) ++ wsX70)
def wsX7_toBlame_r1 : List Cond := [Cond.fieldLink RX7 7 "RippleCountsModel" "s" "[I", Cond.methodLink RX7 71 yX7_in, Cond.static yX7_in, Cond.initialized RX7, Cond.code yX7_in cX7_in 3 (some .boolean), Cond.methodLink RX7 34 yX7_stages, Cond.instanceMethod yX7_stages, Cond.selects RX7 yX7_stages yX7_stages, Cond.code yX7_stages cX7_stages 2 (some .int), Cond.methodLink RX7 112 yX7_copies, Cond.instanceMethod yX7_copies, Cond.selects RX7 yX7_copies yX7_copies, Cond.code yX7_copies cX7_copies 2 none, Cond.methodLink RX7 118 yX7_safe, Cond.instanceMethod yX7_safe, Cond.selects RX7 yX7_safe yX7_safe, Cond.code yX7_safe cX7_safe 2 (some .int), Cond.methodLink RX7 115 yX7_wrongWith, Cond.instanceMethod yX7_wrongWith, Cond.selects RX7 yX7_wrongWith yX7_wrongWith, Cond.code yX7_wrongWith cX7_wrongWith 5 (some .int), Cond.methodLink RX7 26 yX7_begins, Cond.instanceMethod yX7_begins, Cond.selects RX7 yX7_begins yX7_begins]
def wsX7_toBlame_r2 : List Cond := [Cond.code yX7_begins cX7_begins 3 none, Cond.methodLink RX7 68 yX7_clocks, Cond.instanceMethod yX7_clocks, Cond.selects RX7 yX7_clocks yX7_clocks, Cond.code yX7_clocks cX7_clocks 2 none, Cond.methodLink RX7 46 yX7_turns, Cond.instanceMethod yX7_turns, Cond.selects RX7 yX7_turns yX7_turns, Cond.code yX7_turns cX7_turns 3 none, Cond.methodLink RX7 38 yX7_due, Cond.static yX7_due, Cond.code yX7_due cX7_due 3 (some .int), Cond.methodLink RX7 91 yX7_passes, Cond.instanceMethod yX7_passes, Cond.selects RX7 yX7_passes yX7_passes, Cond.code yX7_passes cX7_passes 5 (some .int), Cond.methodLink RX7 65 yX7_passesOne, Cond.instanceMethod yX7_passesOne, Cond.selects RX7 yX7_passesOne yX7_passesOne, Cond.code yX7_passesOne cX7_passesOne 5 (some .int), Cond.methodLink RX7 53 yX7_done, Cond.instanceMethod yX7_done, Cond.selects RX7 yX7_done yX7_done, Cond.code yX7_done cX7_done 3 none]
def wsX7_toBlame_r3 : List Cond := [Cond.methodLink RX7 56 yX7_sees, Cond.instanceMethod yX7_sees, Cond.selects RX7 yX7_sees yX7_sees, Cond.code yX7_sees cX7_sees 5 none, Cond.methodLink RX7 50 yX7_shows, Cond.instanceMethod yX7_shows, Cond.selects RX7 yX7_shows yX7_shows, Cond.code yX7_shows cX7_shows 4 (some .int), Cond.methodLink RX7 59 yX7_allOnWay, Cond.instanceMethod yX7_allOnWay, Cond.selects RX7 yX7_allOnWay yX7_allOnWay, Cond.code yX7_allOnWay cX7_allOnWay 4 (some .int), Cond.methodLink RX7 42 yX7_onWay, Cond.instanceMethod yX7_onWay, Cond.selects RX7 yX7_onWay yX7_onWay, Cond.code yX7_onWay cX7_onWay 5 (some .int), Cond.methodLink RX7 62 yX7_reads, Cond.instanceMethod yX7_reads, Cond.selects RX7 yX7_reads yX7_reads, Cond.code yX7_reads cX7_reads 3 none]
def wsX7_toBlame : List Cond := .code yX7_toBlame cX7_toBlame 6 (some .int) :: ((wsX7_toBlame_r1 ++ (wsX7_toBlame_r2 ++ wsX7_toBlame_r3)) ++ wsX70)
def wsX7_put : List Cond := .code yX7_put cX7_put 8 (some .int) :: ([.constantLong RX7 121 (255), .fieldLink RX7 109 "RippleCountsModel" "length" "I", .fieldLink RX7 23 "RippleCountsModel" "pad" "[I", .methodLink RX7 71 yX7_in, .static yX7_in, .initialized RX7, .code yX7_in cX7_in 3 (some .boolean)] ++ wsX70)
def wsX7_wipe : List Cond := .code yX7_wipe cX7_wipe 2 (some .int) :: ([.fieldLink RX7 109 "RippleCountsModel" "length" "I"] ++ wsX70)
def wsX7_sign : List Cond := .code yX7_sign cX7_sign 2 (some .int) :: ([.fieldLink RX7 109 "RippleCountsModel" "length" "I", .fieldLink RX7 23 "RippleCountsModel" "pad" "[I"] ++ wsX70)
def wsX7_digit : List Cond := .code yX7_digit cX7_digit 2 (some .int) :: ([.methodLink RX7 123 yX7_sign, .instanceMethod yX7_sign, .selects RX7 yX7_sign yX7_sign, .initialized RX7, .code yX7_sign cX7_sign 2 (some .int), .fieldLink RX7 109 "RippleCountsModel" "length" "I", .fieldLink RX7 23 "RippleCountsModel" "pad" "[I", .methodLink RX7 71 yX7_in, .static yX7_in, .code yX7_in cX7_in 3 (some .boolean)] ++ wsX70)
def wsX7_numberEnd : List Cond := .code yX7_numberEnd cX7_numberEnd 2 (some .int) :: ([.methodLink RX7 126 yX7_digit, .instanceMethod yX7_digit, .selects RX7 yX7_digit yX7_digit, .initialized RX7, .code yX7_digit cX7_digit 2 (some .int), .methodLink RX7 123 yX7_sign, .instanceMethod yX7_sign, .selects RX7 yX7_sign yX7_sign, .code yX7_sign cX7_sign 2 (some .int), .fieldLink RX7 109 "RippleCountsModel" "length" "I", .fieldLink RX7 23 "RippleCountsModel" "pad" "[I", .methodLink RX7 71 yX7_in, .static yX7_in, .code yX7_in cX7_in 3 (some .boolean)] ++ wsX70)
def wsX7_numberAt : List Cond := .code yX7_numberAt cX7_numberAt 2 (some .int) :: ([.methodLink RX7 129 yX7_numberEnd, .instanceMethod yX7_numberEnd, .selects RX7 yX7_numberEnd yX7_numberEnd, .initialized RX7, .code yX7_numberEnd cX7_numberEnd 2 (some .int), .methodLink RX7 126 yX7_digit, .instanceMethod yX7_digit, .selects RX7 yX7_digit yX7_digit, .code yX7_digit cX7_digit 2 (some .int), .methodLink RX7 123 yX7_sign, .instanceMethod yX7_sign, .selects RX7 yX7_sign yX7_sign, .code yX7_sign cX7_sign 2 (some .int), .fieldLink RX7 109 "RippleCountsModel" "length" "I", .fieldLink RX7 23 "RippleCountsModel" "pad" "[I", .methodLink RX7 71 yX7_in, .static yX7_in, .code yX7_in cX7_in 3 (some .boolean)] ++ wsX70)
def wsX7_orderEnd : List Cond := .code yX7_orderEnd cX7_orderEnd 2 (some .int) :: ([.methodLink RX7 123 yX7_sign, .instanceMethod yX7_sign, .selects RX7 yX7_sign yX7_sign, .initialized RX7, .code yX7_sign cX7_sign 2 (some .int), .fieldLink RX7 109 "RippleCountsModel" "length" "I", .fieldLink RX7 23 "RippleCountsModel" "pad" "[I", .methodLink RX7 126 yX7_digit, .instanceMethod yX7_digit, .selects RX7 yX7_digit yX7_digit, .code yX7_digit cX7_digit 2 (some .int), .methodLink RX7 71 yX7_in, .static yX7_in, .code yX7_in cX7_in 3 (some .boolean), .methodLink RX7 129 yX7_numberEnd, .instanceMethod yX7_numberEnd, .selects RX7 yX7_numberEnd yX7_numberEnd, .code yX7_numberEnd cX7_numberEnd 2 (some .int)] ++ wsX70)
def wsX7_fault : List Cond := .code yX7_fault cX7_fault 4 (some .int) :: ([.fieldLink RX7 109 "RippleCountsModel" "length" "I", .methodLink RX7 132 yX7_orderEnd, .instanceMethod yX7_orderEnd, .selects RX7 yX7_orderEnd yX7_orderEnd, .initialized RX7, .code yX7_orderEnd cX7_orderEnd 2 (some .int), .methodLink RX7 123 yX7_sign, .instanceMethod yX7_sign, .selects RX7 yX7_sign yX7_sign, .code yX7_sign cX7_sign 2 (some .int), .fieldLink RX7 23 "RippleCountsModel" "pad" "[I", .methodLink RX7 126 yX7_digit, .instanceMethod yX7_digit, .selects RX7 yX7_digit yX7_digit, .code yX7_digit cX7_digit 2 (some .int), .methodLink RX7 71 yX7_in, .static yX7_in, .code yX7_in cX7_in 3 (some .boolean), .methodLink RX7 129 yX7_numberEnd, .instanceMethod yX7_numberEnd, .selects RX7 yX7_numberEnd yX7_numberEnd, .code yX7_numberEnd cX7_numberEnd 2 (some .int)] ++ wsX70)
def wsX7_carries_r1 : List Cond := [Cond.fieldLink RX7 7 "RippleCountsModel" "s" "[I", Cond.methodLink RX7 123 yX7_sign, Cond.instanceMethod yX7_sign, Cond.selects RX7 yX7_sign yX7_sign, Cond.initialized RX7, Cond.code yX7_sign cX7_sign 2 (some .int), Cond.fieldLink RX7 109 "RippleCountsModel" "length" "I", Cond.fieldLink RX7 23 "RippleCountsModel" "pad" "[I", Cond.methodLink RX7 85 yX7_clockNow, Cond.instanceMethod yX7_clockNow, Cond.selects RX7 yX7_clockNow yX7_clockNow, Cond.code yX7_clockNow cX7_clockNow 1 (some .int), Cond.methodLink RX7 68 yX7_clocks, Cond.instanceMethod yX7_clocks, Cond.selects RX7 yX7_clocks yX7_clocks, Cond.code yX7_clocks cX7_clocks 2 none, Cond.methodLink RX7 34 yX7_stages, Cond.instanceMethod yX7_stages, Cond.selects RX7 yX7_stages yX7_stages, Cond.code yX7_stages cX7_stages 2 (some .int), Cond.methodLink RX7 46 yX7_turns, Cond.instanceMethod yX7_turns, Cond.selects RX7 yX7_turns yX7_turns, Cond.code yX7_turns cX7_turns 3 none]
def wsX7_carries_r2 : List Cond := [Cond.methodLink RX7 38 yX7_due, Cond.static yX7_due, Cond.code yX7_due cX7_due 3 (some .int), Cond.methodLink RX7 135 yX7_numberAt, Cond.instanceMethod yX7_numberAt, Cond.selects RX7 yX7_numberAt yX7_numberAt, Cond.code yX7_numberAt cX7_numberAt 2 (some .int), Cond.methodLink RX7 129 yX7_numberEnd, Cond.instanceMethod yX7_numberEnd, Cond.selects RX7 yX7_numberEnd yX7_numberEnd, Cond.code yX7_numberEnd cX7_numberEnd 2 (some .int), Cond.methodLink RX7 126 yX7_digit, Cond.instanceMethod yX7_digit, Cond.selects RX7 yX7_digit yX7_digit, Cond.code yX7_digit cX7_digit 2 (some .int), Cond.methodLink RX7 71 yX7_in, Cond.static yX7_in, Cond.code yX7_in cX7_in 3 (some .boolean), Cond.methodLink RX7 88 yX7_whyNotPass, Cond.instanceMethod yX7_whyNotPass, Cond.selects RX7 yX7_whyNotPass yX7_whyNotPass, Cond.code yX7_whyNotPass cX7_whyNotPass 2 (some .int), Cond.methodLink RX7 91 yX7_passes, Cond.instanceMethod yX7_passes]
def wsX7_carries_r3 : List Cond := [Cond.selects RX7 yX7_passes yX7_passes, Cond.code yX7_passes cX7_passes 5 (some .int), Cond.methodLink RX7 65 yX7_passesOne, Cond.instanceMethod yX7_passesOne, Cond.selects RX7 yX7_passesOne yX7_passesOne, Cond.code yX7_passesOne cX7_passesOne 5 (some .int), Cond.methodLink RX7 53 yX7_done, Cond.instanceMethod yX7_done, Cond.selects RX7 yX7_done yX7_done, Cond.code yX7_done cX7_done 3 none, Cond.methodLink RX7 56 yX7_sees, Cond.instanceMethod yX7_sees, Cond.selects RX7 yX7_sees yX7_sees, Cond.code yX7_sees cX7_sees 5 none, Cond.methodLink RX7 50 yX7_shows, Cond.instanceMethod yX7_shows, Cond.selects RX7 yX7_shows yX7_shows, Cond.code yX7_shows cX7_shows 4 (some .int), Cond.methodLink RX7 59 yX7_allOnWay, Cond.instanceMethod yX7_allOnWay, Cond.selects RX7 yX7_allOnWay yX7_allOnWay, Cond.code yX7_allOnWay cX7_allOnWay 4 (some .int), Cond.methodLink RX7 42 yX7_onWay, Cond.instanceMethod yX7_onWay]
def wsX7_carries_r4 : List Cond := [Cond.selects RX7 yX7_onWay yX7_onWay, Cond.code yX7_onWay cX7_onWay 5 (some .int), Cond.methodLink RX7 62 yX7_reads, Cond.instanceMethod yX7_reads, Cond.selects RX7 yX7_reads yX7_reads, Cond.code yX7_reads cX7_reads 3 none, Cond.methodLink RX7 82 yX7_whyNotDelay, Cond.instanceMethod yX7_whyNotDelay, Cond.selects RX7 yX7_whyNotDelay yX7_whyNotDelay, Cond.code yX7_whyNotDelay cX7_whyNotDelay 3 (some .int), Cond.methodLink RX7 75 yX7_whyNotRead, Cond.instanceMethod yX7_whyNotRead, Cond.selects RX7 yX7_whyNotRead yX7_whyNotRead, Cond.code yX7_whyNotRead cX7_whyNotRead 1 (some .int), Cond.methodLink RX7 94 yX7_whyNotLatch, Cond.instanceMethod yX7_whyNotLatch, Cond.selects RX7 yX7_whyNotLatch yX7_whyNotLatch, Cond.code yX7_whyNotLatch cX7_whyNotLatch 1 (some .int)]
def wsX7_carries : List Cond := .code yX7_carries cX7_carries 4 (some .int) :: ((wsX7_carries_r1 ++ (wsX7_carries_r2 ++ (wsX7_carries_r3 ++ wsX7_carries_r4))) ++ wsX70)
def wsX7_ticks_r1 : List Cond := [Cond.fieldLink RX7 7 "RippleCountsModel" "s" "[I", Cond.methodLink RX7 88 yX7_whyNotPass, Cond.instanceMethod yX7_whyNotPass, Cond.selects RX7 yX7_whyNotPass yX7_whyNotPass, Cond.initialized RX7, Cond.code yX7_whyNotPass cX7_whyNotPass 2 (some .int), Cond.methodLink RX7 71 yX7_in, Cond.static yX7_in, Cond.code yX7_in cX7_in 3 (some .boolean), Cond.methodLink RX7 68 yX7_clocks, Cond.instanceMethod yX7_clocks, Cond.selects RX7 yX7_clocks yX7_clocks, Cond.code yX7_clocks cX7_clocks 2 none, Cond.methodLink RX7 34 yX7_stages, Cond.instanceMethod yX7_stages, Cond.selects RX7 yX7_stages yX7_stages, Cond.code yX7_stages cX7_stages 2 (some .int), Cond.methodLink RX7 46 yX7_turns, Cond.instanceMethod yX7_turns, Cond.selects RX7 yX7_turns yX7_turns, Cond.code yX7_turns cX7_turns 3 none, Cond.methodLink RX7 38 yX7_due, Cond.static yX7_due, Cond.code yX7_due cX7_due 3 (some .int)]
def wsX7_ticks_r2 : List Cond := [Cond.methodLink RX7 65 yX7_passesOne, Cond.instanceMethod yX7_passesOne, Cond.selects RX7 yX7_passesOne yX7_passesOne, Cond.code yX7_passesOne cX7_passesOne 5 (some .int), Cond.methodLink RX7 53 yX7_done, Cond.instanceMethod yX7_done, Cond.selects RX7 yX7_done yX7_done, Cond.code yX7_done cX7_done 3 none, Cond.methodLink RX7 56 yX7_sees, Cond.instanceMethod yX7_sees, Cond.selects RX7 yX7_sees yX7_sees, Cond.code yX7_sees cX7_sees 5 none, Cond.methodLink RX7 50 yX7_shows, Cond.instanceMethod yX7_shows, Cond.selects RX7 yX7_shows yX7_shows, Cond.code yX7_shows cX7_shows 4 (some .int), Cond.methodLink RX7 59 yX7_allOnWay, Cond.instanceMethod yX7_allOnWay, Cond.selects RX7 yX7_allOnWay yX7_allOnWay, Cond.code yX7_allOnWay cX7_allOnWay 4 (some .int), Cond.methodLink RX7 42 yX7_onWay, Cond.instanceMethod yX7_onWay, Cond.selects RX7 yX7_onWay yX7_onWay, Cond.code yX7_onWay cX7_onWay 5 (some .int)]
def wsX7_ticks_r3 : List Cond := [Cond.methodLink RX7 62 yX7_reads, Cond.instanceMethod yX7_reads, Cond.selects RX7 yX7_reads yX7_reads, Cond.code yX7_reads cX7_reads 3 none]
def wsX7_ticks : List Cond := .code yX7_ticks cX7_ticks 2 (some .int) :: ((wsX7_ticks_r1 ++ (wsX7_ticks_r2 ++ wsX7_ticks_r3)) ++ wsX70)
def wsX7_carryOut_r1 : List Cond := [Cond.fieldLink RX7 109 "RippleCountsModel" "length" "I", Cond.methodLink RX7 138 yX7_fault, Cond.instanceMethod yX7_fault, Cond.selects RX7 yX7_fault yX7_fault, Cond.initialized RX7, Cond.code yX7_fault cX7_fault 4 (some .int), Cond.methodLink RX7 132 yX7_orderEnd, Cond.instanceMethod yX7_orderEnd, Cond.selects RX7 yX7_orderEnd yX7_orderEnd, Cond.code yX7_orderEnd cX7_orderEnd 2 (some .int), Cond.methodLink RX7 123 yX7_sign, Cond.instanceMethod yX7_sign, Cond.selects RX7 yX7_sign yX7_sign, Cond.code yX7_sign cX7_sign 2 (some .int), Cond.fieldLink RX7 23 "RippleCountsModel" "pad" "[I", Cond.methodLink RX7 126 yX7_digit, Cond.instanceMethod yX7_digit, Cond.selects RX7 yX7_digit yX7_digit, Cond.code yX7_digit cX7_digit 2 (some .int), Cond.methodLink RX7 71 yX7_in, Cond.static yX7_in, Cond.code yX7_in cX7_in 3 (some .boolean), Cond.methodLink RX7 129 yX7_numberEnd, Cond.instanceMethod yX7_numberEnd]
def wsX7_carryOut_r2 : List Cond := [Cond.selects RX7 yX7_numberEnd yX7_numberEnd, Cond.code yX7_numberEnd cX7_numberEnd 2 (some .int), Cond.methodLink RX7 79 yX7_remembers, Cond.instanceMethod yX7_remembers, Cond.selects RX7 yX7_remembers yX7_remembers, Cond.code yX7_remembers cX7_remembers 2 none, Cond.fieldLink RX7 30 "RippleCountsModel" "known" "I", Cond.fieldLink RX7 13 "RippleCountsModel" "past" "[I", Cond.fieldLink RX7 7 "RippleCountsModel" "s" "[I", Cond.methodLink RX7 135 yX7_numberAt, Cond.instanceMethod yX7_numberAt, Cond.selects RX7 yX7_numberAt yX7_numberAt, Cond.code yX7_numberAt cX7_numberAt 2 (some .int), Cond.methodLink RX7 141 yX7_ticks, Cond.instanceMethod yX7_ticks, Cond.selects RX7 yX7_ticks yX7_ticks, Cond.code yX7_ticks cX7_ticks 2 (some .int), Cond.methodLink RX7 88 yX7_whyNotPass, Cond.instanceMethod yX7_whyNotPass, Cond.selects RX7 yX7_whyNotPass yX7_whyNotPass, Cond.code yX7_whyNotPass cX7_whyNotPass 2 (some .int), Cond.methodLink RX7 68 yX7_clocks, Cond.instanceMethod yX7_clocks, Cond.selects RX7 yX7_clocks yX7_clocks]
def wsX7_carryOut_r3 : List Cond := [Cond.code yX7_clocks cX7_clocks 2 none, Cond.methodLink RX7 34 yX7_stages, Cond.instanceMethod yX7_stages, Cond.selects RX7 yX7_stages yX7_stages, Cond.code yX7_stages cX7_stages 2 (some .int), Cond.methodLink RX7 46 yX7_turns, Cond.instanceMethod yX7_turns, Cond.selects RX7 yX7_turns yX7_turns, Cond.code yX7_turns cX7_turns 3 none, Cond.methodLink RX7 38 yX7_due, Cond.static yX7_due, Cond.code yX7_due cX7_due 3 (some .int), Cond.methodLink RX7 65 yX7_passesOne, Cond.instanceMethod yX7_passesOne, Cond.selects RX7 yX7_passesOne yX7_passesOne, Cond.code yX7_passesOne cX7_passesOne 5 (some .int), Cond.methodLink RX7 53 yX7_done, Cond.instanceMethod yX7_done, Cond.selects RX7 yX7_done yX7_done, Cond.code yX7_done cX7_done 3 none, Cond.methodLink RX7 56 yX7_sees, Cond.instanceMethod yX7_sees, Cond.selects RX7 yX7_sees yX7_sees, Cond.code yX7_sees cX7_sees 5 none]
def wsX7_carryOut_r4 : List Cond := [Cond.methodLink RX7 50 yX7_shows, Cond.instanceMethod yX7_shows, Cond.selects RX7 yX7_shows yX7_shows, Cond.code yX7_shows cX7_shows 4 (some .int), Cond.methodLink RX7 59 yX7_allOnWay, Cond.instanceMethod yX7_allOnWay, Cond.selects RX7 yX7_allOnWay yX7_allOnWay, Cond.code yX7_allOnWay cX7_allOnWay 4 (some .int), Cond.methodLink RX7 42 yX7_onWay, Cond.instanceMethod yX7_onWay, Cond.selects RX7 yX7_onWay yX7_onWay, Cond.code yX7_onWay cX7_onWay 5 (some .int), Cond.methodLink RX7 62 yX7_reads, Cond.instanceMethod yX7_reads, Cond.selects RX7 yX7_reads yX7_reads, Cond.code yX7_reads cX7_reads 3 none, Cond.methodLink RX7 144 yX7_carries, Cond.instanceMethod yX7_carries, Cond.selects RX7 yX7_carries yX7_carries, Cond.code yX7_carries cX7_carries 4 (some .int), Cond.methodLink RX7 85 yX7_clockNow, Cond.instanceMethod yX7_clockNow, Cond.selects RX7 yX7_clockNow yX7_clockNow, Cond.code yX7_clockNow cX7_clockNow 1 (some .int)]
def wsX7_carryOut_r5 : List Cond := [Cond.methodLink RX7 91 yX7_passes, Cond.instanceMethod yX7_passes, Cond.selects RX7 yX7_passes yX7_passes, Cond.code yX7_passes cX7_passes 5 (some .int), Cond.methodLink RX7 82 yX7_whyNotDelay, Cond.instanceMethod yX7_whyNotDelay, Cond.selects RX7 yX7_whyNotDelay yX7_whyNotDelay, Cond.code yX7_whyNotDelay cX7_whyNotDelay 3 (some .int), Cond.methodLink RX7 75 yX7_whyNotRead, Cond.instanceMethod yX7_whyNotRead, Cond.selects RX7 yX7_whyNotRead yX7_whyNotRead, Cond.code yX7_whyNotRead cX7_whyNotRead 1 (some .int), Cond.methodLink RX7 94 yX7_whyNotLatch, Cond.instanceMethod yX7_whyNotLatch, Cond.selects RX7 yX7_whyNotLatch yX7_whyNotLatch, Cond.code yX7_whyNotLatch cX7_whyNotLatch 1 (some .int)]
def wsX7_carryOut : List Cond := .code yX7_carryOut cX7_carryOut 7 (some .int) :: ((wsX7_carryOut_r1 ++ (wsX7_carryOut_r2 ++ (wsX7_carryOut_r3 ++ (wsX7_carryOut_r4 ++ wsX7_carryOut_r5)))) ++ wsX70)
def wsX7_undo : List Cond := .code yX7_undo cX7_undo 2 (some .int) :: ([.fieldLink RX7 30 "RippleCountsModel" "known" "I", .fieldLink RX7 7 "RippleCountsModel" "s" "[I", .fieldLink RX7 13 "RippleCountsModel" "past" "[I"] ++ wsX70)
def wsX7_save : List Cond := .code yX7_save cX7_save 3 (some .int) :: ([.fieldLink RX7 16 "RippleCountsModel" "slots" "[I", .fieldLink RX7 7 "RippleCountsModel" "s" "[I", .fieldLink RX7 19 "RippleCountsModel" "isSaved" "[Z", .methodLink RX7 71 yX7_in, .static yX7_in, .initialized RX7, .code yX7_in cX7_in 3 (some .boolean)] ++ wsX70)
def wsX7_restore : List Cond := .code yX7_restore cX7_restore 3 (some .int) :: ([.fieldLink RX7 19 "RippleCountsModel" "isSaved" "[Z", .fieldLink RX7 7 "RippleCountsModel" "s" "[I", .fieldLink RX7 16 "RippleCountsModel" "slots" "[I", .methodLink RX7 71 yX7_in, .static yX7_in, .initialized RX7, .code yX7_in cX7_in 3 (some .boolean), .methodLink RX7 79 yX7_remembers, .instanceMethod yX7_remembers, .selects RX7 yX7_remembers yX7_remembers, .code yX7_remembers cX7_remembers 2 none, .fieldLink RX7 30 "RippleCountsModel" "known" "I", .fieldLink RX7 13 "RippleCountsModel" "past" "[I"] ++ wsX70)
def wsJ9_max_7cf53 : List Cond := .code yJ9_max_7cf53 cJ9_max_7cf53 2 (some .int) :: ([])
def wsJ9_min_7cf53 : List Cond := .code yJ9_min_7cf53 cJ9_min_7cf53 2 (some .int) :: ([])
abbrev vwCl : List vw_C := [(RX0, TX0, 8), (RX1, TX1, 3), (RX2, TX2, 2), (RX3, TX3, 5), (RX4, TX4, 5), (RX5, TX5, 7), (RX6, TX6, 6), (RX7, TX7, 7)]
end
section
theorem dJ7_fill_53178_0 : decode cJ7_fill_53178 0 = .ok (.iconst 0, 1) := by decide +kernel
theorem dJ7_fill_53178_1 : decode cJ7_fill_53178 1 = .ok (.istore_n 2, 1) := by decide +kernel
theorem dJ7_fill_53178_2 : decode cJ7_fill_53178 2 = .ok (.aload_n 0, 1) := by decide +kernel
theorem dJ7_fill_53178_3 : decode cJ7_fill_53178 3 = .ok (.arraylength, 1) := by decide +kernel
theorem dJ7_fill_53178_4 : decode cJ7_fill_53178 4 = .ok (.istore_n 3, 1) := by decide +kernel
theorem dJ7_fill_53178_5 : decode cJ7_fill_53178 5 = .ok (.iload_n 2, 1) := by decide +kernel
theorem dJ7_fill_53178_6 : decode cJ7_fill_53178 6 = .ok (.iload_n 3, 1) := by decide +kernel
theorem dJ7_fill_53178_7 : decode cJ7_fill_53178 7 = .ok (.if_icmp .ge 13, 3) := by decide +kernel
theorem dJ7_fill_53178_10 : decode cJ7_fill_53178 10 = .ok (.aload_n 0, 1) := by decide +kernel
theorem dJ7_fill_53178_11 : decode cJ7_fill_53178 11 = .ok (.iload_n 2, 1) := by decide +kernel
theorem dJ7_fill_53178_12 : decode cJ7_fill_53178 12 = .ok (.iload_n 1, 1) := by decide +kernel
theorem dJ7_fill_53178_13 : decode cJ7_fill_53178 13 = .ok (.iastore, 1) := by decide +kernel
theorem dJ7_fill_53178_14 : decode cJ7_fill_53178 14 = .ok (.iinc 2 1, 3) := by decide +kernel
theorem dJ7_fill_53178_17 : decode cJ7_fill_53178 17 = .ok (.goto (-12), 3) := by decide +kernel
theorem dJ7_fill_53178_20 : decode cJ7_fill_53178 20 = .ok (.return_, 1) := by decide +kernel
theorem dJ9_max_7cf53_0 : decode cJ9_max_7cf53 0 = .ok (.iload_n 0, 1) := by decide +kernel
theorem dJ9_max_7cf53_1 : decode cJ9_max_7cf53 1 = .ok (.iload_n 1, 1) := by decide +kernel
theorem dJ9_max_7cf53_2 : decode cJ9_max_7cf53 2 = .ok (.if_icmp .lt 7, 3) := by decide +kernel
theorem dJ9_max_7cf53_5 : decode cJ9_max_7cf53 5 = .ok (.iload_n 0, 1) := by decide +kernel
theorem dJ9_max_7cf53_6 : decode cJ9_max_7cf53 6 = .ok (.goto 4, 3) := by decide +kernel
theorem dJ9_max_7cf53_9 : decode cJ9_max_7cf53 9 = .ok (.iload_n 1, 1) := by decide +kernel
theorem dJ9_max_7cf53_10 : decode cJ9_max_7cf53 10 = .ok (.ireturn, 1) := by decide +kernel
theorem dJ9_min_7cf53_0 : decode cJ9_min_7cf53 0 = .ok (.iload_n 0, 1) := by decide +kernel
theorem dJ9_min_7cf53_1 : decode cJ9_min_7cf53 1 = .ok (.iload_n 1, 1) := by decide +kernel
theorem dJ9_min_7cf53_2 : decode cJ9_min_7cf53 2 = .ok (.if_icmp .gt 7, 3) := by decide +kernel
theorem dJ9_min_7cf53_5 : decode cJ9_min_7cf53 5 = .ok (.iload_n 0, 1) := by decide +kernel
theorem dJ9_min_7cf53_6 : decode cJ9_min_7cf53 6 = .ok (.goto 4, 3) := by decide +kernel
theorem dJ9_min_7cf53_9 : decode cJ9_min_7cf53 9 = .ok (.iload_n 1, 1) := by decide +kernel
theorem dJ9_min_7cf53_10 : decode cJ9_min_7cf53 10 = .ok (.ireturn, 1) := by decide +kernel
set_option maxRecDepth 20000 in
theorem ggX5_init_J7_fill_53178 : GoodIn wsX5_init wsJ7_fill_53178 := goodIn_r _ [12] (by decide +kernel) (by decide +kernel)
set_option maxRecDepth 20000 in
theorem gX5_init_J7_fill_53178 : GoodIn wsX5_init (va_wsS RX5 25 yJ7_fill_53178 wsJ7_fill_53178) := goodIn_app (goodIn_of _ (by decide +kernel)) ggX5_init_J7_fill_53178
theorem dX5_init_0 : decode cX5_init 0 = .ok (.aload_n 0, 1) := by decide +kernel
theorem dX5_init_1 : decode cX5_init 1 = .ok (.invokespecial 3, 3) := by decide +kernel
theorem dX5_init_4 : decode cX5_init 4 = .ok (.aload_n 0, 1) := by decide +kernel
theorem dX5_init_5 : decode cX5_init 5 = .ok (.iconst 4, 1) := by decide +kernel
theorem dX5_init_6 : decode cX5_init 6 = .ok (.putfield 9, 3) := by decide +kernel
theorem dX5_init_9 : decode cX5_init 9 = .ok (.aload_n 0, 1) := by decide +kernel
theorem dX5_init_10 : decode cX5_init 10 = .ok (.iconst 5, 1) := by decide +kernel
theorem dX5_init_11 : decode cX5_init 11 = .ok (.newarray .int, 2) := by decide +kernel
theorem dX5_init_13 : decode cX5_init 13 = .ok (.putfield 15, 3) := by decide +kernel
theorem dX5_init_16 : decode cX5_init 16 = .ok (.aload_n 0, 1) := by decide +kernel
theorem dX5_init_17 : decode cX5_init 17 = .ok (.iconst 5, 1) := by decide +kernel
theorem dX5_init_18 : decode cX5_init 18 = .ok (.newarray .int, 2) := by decide +kernel
theorem dX5_init_20 : decode cX5_init 20 = .ok (.putfield 19, 3) := by decide +kernel
theorem dX5_init_23 : decode cX5_init 23 = .ok (.aload_n 0, 1) := by decide +kernel
theorem dX5_init_24 : decode cX5_init 24 = .ok (.bipush 105, 2) := by decide +kernel
theorem dX5_init_26 : decode cX5_init 26 = .ok (.newarray .int, 2) := by decide +kernel
theorem dX5_init_28 : decode cX5_init 28 = .ok (.putfield 22, 3) := by decide +kernel
theorem dX5_init_31 : decode cX5_init 31 = .ok (.aload_n 0, 1) := by decide +kernel
theorem dX5_init_32 : decode cX5_init 32 = .ok (.getfield 15, 3) := by decide +kernel
theorem dX5_init_35 : decode cX5_init 35 = .ok (.iconst 3, 1) := by decide +kernel
theorem dX5_init_36 : decode cX5_init 36 = .ok (.invokestatic 25, 3) := by decide +kernel
theorem dX5_init_39 : decode cX5_init 39 = .ok (.return_, 1) := by decide +kernel
theorem dX5_copyFrom_0 : decode cX5_copyFrom 0 = .ok (.aload_n 0, 1) := by decide +kernel
theorem dX5_copyFrom_1 : decode cX5_copyFrom 1 = .ok (.aload_n 1, 1) := by decide +kernel
theorem dX5_copyFrom_2 : decode cX5_copyFrom 2 = .ok (.getfield 31, 3) := by decide +kernel
theorem dX5_copyFrom_5 : decode cX5_copyFrom 5 = .ok (.putfield 31, 3) := by decide +kernel
theorem dX5_copyFrom_8 : decode cX5_copyFrom 8 = .ok (.aload_n 0, 1) := by decide +kernel
theorem dX5_copyFrom_9 : decode cX5_copyFrom 9 = .ok (.aload_n 1, 1) := by decide +kernel
theorem dX5_copyFrom_10 : decode cX5_copyFrom 10 = .ok (.getfield 9, 3) := by decide +kernel
theorem dX5_copyFrom_13 : decode cX5_copyFrom 13 = .ok (.putfield 9, 3) := by decide +kernel
theorem dX5_copyFrom_16 : decode cX5_copyFrom 16 = .ok (.aload_n 0, 1) := by decide +kernel
theorem dX5_copyFrom_17 : decode cX5_copyFrom 17 = .ok (.aload_n 1, 1) := by decide +kernel
theorem dX5_copyFrom_18 : decode cX5_copyFrom 18 = .ok (.getfield 34, 3) := by decide +kernel
theorem dX5_copyFrom_21 : decode cX5_copyFrom 21 = .ok (.putfield 34, 3) := by decide +kernel
theorem dX5_copyFrom_24 : decode cX5_copyFrom 24 = .ok (.aload_n 0, 1) := by decide +kernel
theorem dX5_copyFrom_25 : decode cX5_copyFrom 25 = .ok (.aload_n 1, 1) := by decide +kernel
theorem dX5_copyFrom_26 : decode cX5_copyFrom 26 = .ok (.getfield 37, 3) := by decide +kernel
theorem dX5_copyFrom_29 : decode cX5_copyFrom 29 = .ok (.putfield 37, 3) := by decide +kernel
theorem dX5_copyFrom_32 : decode cX5_copyFrom 32 = .ok (.aload_n 1, 1) := by decide +kernel
theorem dX5_copyFrom_33 : decode cX5_copyFrom 33 = .ok (.getfield 15, 3) := by decide +kernel
theorem dX5_copyFrom_36 : decode cX5_copyFrom 36 = .ok (.iconst 0, 1) := by decide +kernel
theorem dX5_copyFrom_37 : decode cX5_copyFrom 37 = .ok (.aload_n 0, 1) := by decide +kernel
theorem dX5_copyFrom_38 : decode cX5_copyFrom 38 = .ok (.getfield 15, 3) := by decide +kernel
theorem dX5_copyFrom_41 : decode cX5_copyFrom 41 = .ok (.iconst 0, 1) := by decide +kernel
theorem dX5_copyFrom_42 : decode cX5_copyFrom 42 = .ok (.iconst 5, 1) := by decide +kernel
theorem dX5_copyFrom_43 : decode cX5_copyFrom 43 = .ok (.invokestatic 40, 3) := by decide +kernel
theorem dX5_copyFrom_46 : decode cX5_copyFrom 46 = .ok (.aload_n 1, 1) := by decide +kernel
theorem dX5_copyFrom_47 : decode cX5_copyFrom 47 = .ok (.getfield 19, 3) := by decide +kernel
theorem dX5_copyFrom_50 : decode cX5_copyFrom 50 = .ok (.iconst 0, 1) := by decide +kernel
theorem dX5_copyFrom_51 : decode cX5_copyFrom 51 = .ok (.aload_n 0, 1) := by decide +kernel
theorem dX5_copyFrom_52 : decode cX5_copyFrom 52 = .ok (.getfield 19, 3) := by decide +kernel
theorem dX5_copyFrom_55 : decode cX5_copyFrom 55 = .ok (.iconst 0, 1) := by decide +kernel
theorem dX5_copyFrom_56 : decode cX5_copyFrom 56 = .ok (.iconst 5, 1) := by decide +kernel
theorem dX5_copyFrom_57 : decode cX5_copyFrom 57 = .ok (.invokestatic 40, 3) := by decide +kernel
theorem dX5_copyFrom_60 : decode cX5_copyFrom 60 = .ok (.aload_n 1, 1) := by decide +kernel
theorem dX5_copyFrom_61 : decode cX5_copyFrom 61 = .ok (.getfield 22, 3) := by decide +kernel
theorem dX5_copyFrom_64 : decode cX5_copyFrom 64 = .ok (.iconst 0, 1) := by decide +kernel
theorem dX5_copyFrom_65 : decode cX5_copyFrom 65 = .ok (.aload_n 0, 1) := by decide +kernel
theorem dX5_copyFrom_66 : decode cX5_copyFrom 66 = .ok (.getfield 22, 3) := by decide +kernel
theorem dX5_copyFrom_69 : decode cX5_copyFrom 69 = .ok (.iconst 0, 1) := by decide +kernel
theorem dX5_copyFrom_70 : decode cX5_copyFrom 70 = .ok (.bipush 105, 2) := by decide +kernel
theorem dX5_copyFrom_72 : decode cX5_copyFrom 72 = .ok (.invokestatic 40, 3) := by decide +kernel
theorem dX5_copyFrom_75 : decode cX5_copyFrom 75 = .ok (.return_, 1) := by decide +kernel
set_option maxRecDepth 20000 in
theorem ggX5_beginAnew_J7_fill_53178 : GoodIn wsX5_beginAnew wsJ7_fill_53178 := goodIn_r _ [9] (by decide +kernel) (by decide +kernel)
set_option maxRecDepth 20000 in
theorem gX5_beginAnew_J7_fill_53178 : GoodIn wsX5_beginAnew (va_wsS RX5 25 yJ7_fill_53178 wsJ7_fill_53178) := goodIn_app (goodIn_of _ (by decide +kernel)) ggX5_beginAnew_J7_fill_53178
theorem dX5_beginAnew_0 : decode cX5_beginAnew 0 = .ok (.aload_n 0, 1) := by decide +kernel
theorem dX5_beginAnew_1 : decode cX5_beginAnew 1 = .ok (.iload_n 1, 1) := by decide +kernel
theorem dX5_beginAnew_2 : decode cX5_beginAnew 2 = .ok (.putfield 9, 3) := by decide +kernel
theorem dX5_beginAnew_5 : decode cX5_beginAnew 5 = .ok (.aload_n 0, 1) := by decide +kernel
theorem dX5_beginAnew_6 : decode cX5_beginAnew 6 = .ok (.iconst 0, 1) := by decide +kernel
theorem dX5_beginAnew_7 : decode cX5_beginAnew 7 = .ok (.putfield 34, 3) := by decide +kernel
theorem dX5_beginAnew_10 : decode cX5_beginAnew 10 = .ok (.aload_n 0, 1) := by decide +kernel
theorem dX5_beginAnew_11 : decode cX5_beginAnew 11 = .ok (.iconst 0, 1) := by decide +kernel
theorem dX5_beginAnew_12 : decode cX5_beginAnew 12 = .ok (.putfield 37, 3) := by decide +kernel
theorem dX5_beginAnew_15 : decode cX5_beginAnew 15 = .ok (.aload_n 0, 1) := by decide +kernel
theorem dX5_beginAnew_16 : decode cX5_beginAnew 16 = .ok (.getfield 19, 3) := by decide +kernel
theorem dX5_beginAnew_19 : decode cX5_beginAnew 19 = .ok (.iconst 0, 1) := by decide +kernel
theorem dX5_beginAnew_20 : decode cX5_beginAnew 20 = .ok (.invokestatic 25, 3) := by decide +kernel
theorem dX5_beginAnew_23 : decode cX5_beginAnew 23 = .ok (.aload_n 0, 1) := by decide +kernel
theorem dX5_beginAnew_24 : decode cX5_beginAnew 24 = .ok (.getfield 22, 3) := by decide +kernel
theorem dX5_beginAnew_27 : decode cX5_beginAnew 27 = .ok (.iconst 0, 1) := by decide +kernel
theorem dX5_beginAnew_28 : decode cX5_beginAnew 28 = .ok (.invokestatic 25, 3) := by decide +kernel
theorem dX5_beginAnew_31 : decode cX5_beginAnew 31 = .ok (.return_, 1) := by decide +kernel
theorem dX5_hasStage_0 : decode cX5_hasStage 0 = .ok (.iload_n 1, 1) := by decide +kernel
theorem dX5_hasStage_1 : decode cX5_hasStage 1 = .ok (.ifCond .lt 15, 3) := by decide +kernel
theorem dX5_hasStage_4 : decode cX5_hasStage 4 = .ok (.iload_n 1, 1) := by decide +kernel
theorem dX5_hasStage_5 : decode cX5_hasStage 5 = .ok (.aload_n 0, 1) := by decide +kernel
theorem dX5_hasStage_6 : decode cX5_hasStage 6 = .ok (.getfield 9, 3) := by decide +kernel
theorem dX5_hasStage_9 : decode cX5_hasStage 9 = .ok (.if_icmp .ge 7, 3) := by decide +kernel
theorem dX5_hasStage_12 : decode cX5_hasStage 12 = .ok (.iconst 1, 1) := by decide +kernel
theorem dX5_hasStage_13 : decode cX5_hasStage 13 = .ok (.goto 4, 3) := by decide +kernel
theorem dX5_hasStage_16 : decode cX5_hasStage 16 = .ok (.iconst 0, 1) := by decide +kernel
theorem dX5_hasStage_17 : decode cX5_hasStage 17 = .ok (.ireturn, 1) := by decide +kernel
theorem dX5_output_0 : decode cX5_output 0 = .ok (.aload_n 0, 1) := by decide +kernel
theorem dX5_output_1 : decode cX5_output 1 = .ok (.getfield 34, 3) := by decide +kernel
theorem dX5_output_4 : decode cX5_output 4 = .ok (.iload_n 1, 1) := by decide +kernel
theorem dX5_output_5 : decode cX5_output 5 = .ok (.ishr, 1) := by decide +kernel
theorem dX5_output_6 : decode cX5_output 6 = .ok (.iconst 1, 1) := by decide +kernel
theorem dX5_output_7 : decode cX5_output 7 = .ok (.iand, 1) := by decide +kernel
theorem dX5_output_8 : decode cX5_output 8 = .ok (.ireturn, 1) := by decide +kernel
theorem dX5_begin_0 : decode cX5_begin 0 = .ok (.aload_n 0, 1) := by decide +kernel
theorem dX5_begin_1 : decode cX5_begin 1 = .ok (.getfield 22, 3) := by decide +kernel
theorem dX5_begin_4 : decode cX5_begin 4 = .ok (.iload_n 1, 1) := by decide +kernel
theorem dX5_begin_5 : decode cX5_begin 5 = .ok (.bipush 21, 2) := by decide +kernel
theorem dX5_begin_7 : decode cX5_begin 7 = .ok (.imul, 1) := by decide +kernel
theorem dX5_begin_8 : decode cX5_begin 8 = .ok (.aload_n 0, 1) := by decide +kernel
theorem dX5_begin_9 : decode cX5_begin 9 = .ok (.getfield 31, 3) := by decide +kernel
theorem dX5_begin_12 : decode cX5_begin 12 = .ok (.aload_n 0, 1) := by decide +kernel
theorem dX5_begin_13 : decode cX5_begin 13 = .ok (.getfield 15, 3) := by decide +kernel
theorem dX5_begin_16 : decode cX5_begin 16 = .ok (.iload_n 1, 1) := by decide +kernel
theorem dX5_begin_17 : decode cX5_begin 17 = .ok (.iaload, 1) := by decide +kernel
theorem dX5_begin_18 : decode cX5_begin 18 = .ok (.iadd, 1) := by decide +kernel
theorem dX5_begin_19 : decode cX5_begin 19 = .ok (.bipush 21, 2) := by decide +kernel
theorem dX5_begin_21 : decode cX5_begin 21 = .ok (.irem, 1) := by decide +kernel
theorem dX5_begin_22 : decode cX5_begin 22 = .ok (.iadd, 1) := by decide +kernel
theorem dX5_begin_23 : decode cX5_begin 23 = .ok (.dup2, 1) := by decide +kernel
theorem dX5_begin_24 : decode cX5_begin 24 = .ok (.iaload, 1) := by decide +kernel
theorem dX5_begin_25 : decode cX5_begin 25 = .ok (.iload_n 2, 1) := by decide +kernel
theorem dX5_begin_26 : decode cX5_begin 26 = .ok (.iadd, 1) := by decide +kernel
theorem dX5_begin_27 : decode cX5_begin 27 = .ok (.iastore, 1) := by decide +kernel
theorem dX5_begin_28 : decode cX5_begin 28 = .ok (.aload_n 0, 1) := by decide +kernel
theorem dX5_begin_29 : decode cX5_begin 29 = .ok (.dup, 1) := by decide +kernel
theorem dX5_begin_30 : decode cX5_begin 30 = .ok (.getfield 37, 3) := by decide +kernel
theorem dX5_begin_33 : decode cX5_begin 33 = .ok (.iload_n 2, 1) := by decide +kernel
theorem dX5_begin_34 : decode cX5_begin 34 = .ok (.iadd, 1) := by decide +kernel
theorem dX5_begin_35 : decode cX5_begin 35 = .ok (.putfield 37, 3) := by decide +kernel
theorem dX5_begin_38 : decode cX5_begin 38 = .ok (.return_, 1) := by decide +kernel
set_option maxRecDepth 20000 in
theorem ggX5_turnDue_X5_turnOver : GoodIn wsX5_turnDue wsX5_turnOver := goodIn_r _ [9, 10, 11, 17, 18, 19, 20, 21, 22, 23] (by decide +kernel) (by decide +kernel)
set_option maxRecDepth 20000 in
theorem gX5_turnDue_X5_turnOver : GoodIn wsX5_turnDue (wsV RX5 46 RX5 yX5_turnOver wsX5_turnOver) := goodIn_app (goodIn_of _ (by decide +kernel)) ggX5_turnDue_X5_turnOver
set_option maxRecDepth 20000 in
theorem ggX5_turnDue_X5_begin : GoodIn wsX5_turnDue wsX5_begin := goodIn_r _ [15, 3, 2, 16, 4, 17, 18, 19, 20, 21, 22, 23] (by decide +kernel) (by decide +kernel)
set_option maxRecDepth 20000 in
theorem gX5_turnDue_X5_begin : GoodIn wsX5_turnDue (wsV RX5 50 RX5 yX5_begin wsX5_begin) := goodIn_app (goodIn_of _ (by decide +kernel)) ggX5_turnDue_X5_begin
theorem dX5_turnDue_0 : decode cX5_turnDue 0 = .ok (.iconst 0, 1) := by decide +kernel
theorem dX5_turnDue_1 : decode cX5_turnDue 1 = .ok (.istore_n 1, 1) := by decide +kernel
theorem dX5_turnDue_2 : decode cX5_turnDue 2 = .ok (.iconst 0, 1) := by decide +kernel
theorem dX5_turnDue_3 : decode cX5_turnDue 3 = .ok (.istore_n 2, 1) := by decide +kernel
theorem dX5_turnDue_4 : decode cX5_turnDue 4 = .ok (.iload_n 2, 1) := by decide +kernel
theorem dX5_turnDue_5 : decode cX5_turnDue 5 = .ok (.aload_n 0, 1) := by decide +kernel
theorem dX5_turnDue_6 : decode cX5_turnDue 6 = .ok (.getfield 9, 3) := by decide +kernel
theorem dX5_turnDue_9 : decode cX5_turnDue 9 = .ok (.if_icmp .ge 86, 3) := by decide +kernel
theorem dX5_turnDue_12 : decode cX5_turnDue 12 = .ok (.iload_n 2, 1) := by decide +kernel
theorem dX5_turnDue_13 : decode cX5_turnDue 13 = .ok (.bipush 21, 2) := by decide +kernel
theorem dX5_turnDue_15 : decode cX5_turnDue 15 = .ok (.imul, 1) := by decide +kernel
theorem dX5_turnDue_16 : decode cX5_turnDue 16 = .ok (.aload_n 0, 1) := by decide +kernel
theorem dX5_turnDue_17 : decode cX5_turnDue 17 = .ok (.getfield 31, 3) := by decide +kernel
theorem dX5_turnDue_20 : decode cX5_turnDue 20 = .ok (.bipush 21, 2) := by decide +kernel
theorem dX5_turnDue_22 : decode cX5_turnDue 22 = .ok (.irem, 1) := by decide +kernel
theorem dX5_turnDue_23 : decode cX5_turnDue 23 = .ok (.iadd, 1) := by decide +kernel
theorem dX5_turnDue_24 : decode cX5_turnDue 24 = .ok (.istore_n 3, 1) := by decide +kernel
theorem dX5_turnDue_25 : decode cX5_turnDue 25 = .ok (.aload_n 0, 1) := by decide +kernel
theorem dX5_turnDue_26 : decode cX5_turnDue 26 = .ok (.getfield 22, 3) := by decide +kernel
theorem dX5_turnDue_29 : decode cX5_turnDue 29 = .ok (.iload_n 3, 1) := by decide +kernel
theorem dX5_turnDue_30 : decode cX5_turnDue 30 = .ok (.iaload, 1) := by decide +kernel
theorem dX5_turnDue_31 : decode cX5_turnDue 31 = .ok (.istore 4, 2) := by decide +kernel
theorem dX5_turnDue_33 : decode cX5_turnDue 33 = .ok (.iload 4, 2) := by decide +kernel
theorem dX5_turnDue_35 : decode cX5_turnDue 35 = .ok (.ifCond .le 54, 3) := by decide +kernel
theorem dX5_turnDue_38 : decode cX5_turnDue 38 = .ok (.aload_n 0, 1) := by decide +kernel
theorem dX5_turnDue_39 : decode cX5_turnDue 39 = .ok (.getfield 22, 3) := by decide +kernel
theorem dX5_turnDue_42 : decode cX5_turnDue 42 = .ok (.iload_n 3, 1) := by decide +kernel
theorem dX5_turnDue_43 : decode cX5_turnDue 43 = .ok (.iconst 0, 1) := by decide +kernel
theorem dX5_turnDue_44 : decode cX5_turnDue 44 = .ok (.iastore, 1) := by decide +kernel
theorem dX5_turnDue_45 : decode cX5_turnDue 45 = .ok (.aload_n 0, 1) := by decide +kernel
theorem dX5_turnDue_46 : decode cX5_turnDue 46 = .ok (.dup, 1) := by decide +kernel
theorem dX5_turnDue_47 : decode cX5_turnDue 47 = .ok (.getfield 37, 3) := by decide +kernel
theorem dX5_turnDue_50 : decode cX5_turnDue 50 = .ok (.iload 4, 2) := by decide +kernel
theorem dX5_turnDue_52 : decode cX5_turnDue 52 = .ok (.isub, 1) := by decide +kernel
theorem dX5_turnDue_53 : decode cX5_turnDue 53 = .ok (.putfield 37, 3) := by decide +kernel
theorem dX5_turnDue_56 : decode cX5_turnDue 56 = .ok (.iload_n 1, 1) := by decide +kernel
theorem dX5_turnDue_57 : decode cX5_turnDue 57 = .ok (.iload 4, 2) := by decide +kernel
theorem dX5_turnDue_59 : decode cX5_turnDue 59 = .ok (.iadd, 1) := by decide +kernel
theorem dX5_turnDue_60 : decode cX5_turnDue 60 = .ok (.istore_n 1, 1) := by decide +kernel
theorem dX5_turnDue_61 : decode cX5_turnDue 61 = .ok (.aload_n 0, 1) := by decide +kernel
theorem dX5_turnDue_62 : decode cX5_turnDue 62 = .ok (.iload_n 2, 1) := by decide +kernel
theorem dX5_turnDue_63 : decode cX5_turnDue 63 = .ok (.iload 4, 2) := by decide +kernel
theorem dX5_turnDue_65 : decode cX5_turnDue 65 = .ok (.invokevirtual 46, 3) := by decide +kernel
theorem dX5_turnDue_68 : decode cX5_turnDue 68 = .ok (.istore 5, 2) := by decide +kernel
theorem dX5_turnDue_70 : decode cX5_turnDue 70 = .ok (.iload_n 2, 1) := by decide +kernel
theorem dX5_turnDue_71 : decode cX5_turnDue 71 = .ok (.iconst 1, 1) := by decide +kernel
theorem dX5_turnDue_72 : decode cX5_turnDue 72 = .ok (.iadd, 1) := by decide +kernel
theorem dX5_turnDue_73 : decode cX5_turnDue 73 = .ok (.aload_n 0, 1) := by decide +kernel
theorem dX5_turnDue_74 : decode cX5_turnDue 74 = .ok (.getfield 9, 3) := by decide +kernel
theorem dX5_turnDue_77 : decode cX5_turnDue 77 = .ok (.if_icmp .ge 12, 3) := by decide +kernel
theorem dX5_turnDue_80 : decode cX5_turnDue 80 = .ok (.aload_n 0, 1) := by decide +kernel
theorem dX5_turnDue_81 : decode cX5_turnDue 81 = .ok (.iload_n 2, 1) := by decide +kernel
theorem dX5_turnDue_82 : decode cX5_turnDue 82 = .ok (.iconst 1, 1) := by decide +kernel
theorem dX5_turnDue_83 : decode cX5_turnDue 83 = .ok (.iadd, 1) := by decide +kernel
theorem dX5_turnDue_84 : decode cX5_turnDue 84 = .ok (.iload 5, 2) := by decide +kernel
theorem dX5_turnDue_86 : decode cX5_turnDue 86 = .ok (.invokevirtual 50, 3) := by decide +kernel
theorem dX5_turnDue_89 : decode cX5_turnDue 89 = .ok (.iinc 2 1, 3) := by decide +kernel
theorem dX5_turnDue_92 : decode cX5_turnDue 92 = .ok (.goto (-88), 3) := by decide +kernel
theorem dX5_turnDue_95 : decode cX5_turnDue 95 = .ok (.iload_n 1, 1) := by decide +kernel
theorem dX5_turnDue_96 : decode cX5_turnDue 96 = .ok (.ireturn, 1) := by decide +kernel
set_option maxRecDepth 20000 in
theorem ggX5_nanosecond_X5_turnDue : GoodIn wsX5_nanosecond wsX5_turnDue := goodIn_r _ [6, 7, 1, 8, 9, 10, 11, 12, 5, 13, 14, 15, 16, 17, 18, 19, 20, 21, 22, 23, 24, 25, 26, 27] (by decide +kernel) (by decide +kernel)
set_option maxRecDepth 20000 in
theorem gX5_nanosecond_X5_turnDue : GoodIn wsX5_nanosecond (wsV RX5 54 RX5 yX5_turnDue wsX5_turnDue) := goodIn_app (goodIn_of _ (by decide +kernel)) ggX5_nanosecond_X5_turnDue
theorem dX5_nanosecond_0 : decode cX5_nanosecond 0 = .ok (.aload_n 0, 1) := by decide +kernel
theorem dX5_nanosecond_1 : decode cX5_nanosecond 1 = .ok (.invokevirtual 54, 3) := by decide +kernel
theorem dX5_nanosecond_4 : decode cX5_nanosecond 4 = .ok (.pop, 1) := by decide +kernel
theorem dX5_nanosecond_5 : decode cX5_nanosecond 5 = .ok (.aload_n 0, 1) := by decide +kernel
theorem dX5_nanosecond_6 : decode cX5_nanosecond 6 = .ok (.dup, 1) := by decide +kernel
theorem dX5_nanosecond_7 : decode cX5_nanosecond 7 = .ok (.getfield 31, 3) := by decide +kernel
theorem dX5_nanosecond_10 : decode cX5_nanosecond 10 = .ok (.iconst 1, 1) := by decide +kernel
theorem dX5_nanosecond_11 : decode cX5_nanosecond 11 = .ok (.iadd, 1) := by decide +kernel
theorem dX5_nanosecond_12 : decode cX5_nanosecond 12 = .ok (.putfield 31, 3) := by decide +kernel
theorem dX5_nanosecond_15 : decode cX5_nanosecond 15 = .ok (.return_, 1) := by decide +kernel
theorem dX5_onTheirWayIn_0 : decode cX5_onTheirWayIn 0 = .ok (.iconst 0, 1) := by decide +kernel
theorem dX5_onTheirWayIn_1 : decode cX5_onTheirWayIn 1 = .ok (.istore_n 2, 1) := by decide +kernel
theorem dX5_onTheirWayIn_2 : decode cX5_onTheirWayIn 2 = .ok (.iconst 0, 1) := by decide +kernel
theorem dX5_onTheirWayIn_3 : decode cX5_onTheirWayIn 3 = .ok (.istore_n 3, 1) := by decide +kernel
theorem dX5_onTheirWayIn_4 : decode cX5_onTheirWayIn 4 = .ok (.iload_n 3, 1) := by decide +kernel
theorem dX5_onTheirWayIn_5 : decode cX5_onTheirWayIn 5 = .ok (.bipush 21, 2) := by decide +kernel
theorem dX5_onTheirWayIn_7 : decode cX5_onTheirWayIn 7 = .ok (.if_icmp .ge 23, 3) := by decide +kernel
theorem dX5_onTheirWayIn_10 : decode cX5_onTheirWayIn 10 = .ok (.iload_n 2, 1) := by decide +kernel
theorem dX5_onTheirWayIn_11 : decode cX5_onTheirWayIn 11 = .ok (.aload_n 0, 1) := by decide +kernel
theorem dX5_onTheirWayIn_12 : decode cX5_onTheirWayIn 12 = .ok (.getfield 22, 3) := by decide +kernel
theorem dX5_onTheirWayIn_15 : decode cX5_onTheirWayIn 15 = .ok (.iload_n 1, 1) := by decide +kernel
theorem dX5_onTheirWayIn_16 : decode cX5_onTheirWayIn 16 = .ok (.bipush 21, 2) := by decide +kernel
theorem dX5_onTheirWayIn_18 : decode cX5_onTheirWayIn 18 = .ok (.imul, 1) := by decide +kernel
theorem dX5_onTheirWayIn_19 : decode cX5_onTheirWayIn 19 = .ok (.iload_n 3, 1) := by decide +kernel
theorem dX5_onTheirWayIn_20 : decode cX5_onTheirWayIn 20 = .ok (.iadd, 1) := by decide +kernel
theorem dX5_onTheirWayIn_21 : decode cX5_onTheirWayIn 21 = .ok (.iaload, 1) := by decide +kernel
theorem dX5_onTheirWayIn_22 : decode cX5_onTheirWayIn 22 = .ok (.iadd, 1) := by decide +kernel
theorem dX5_onTheirWayIn_23 : decode cX5_onTheirWayIn 23 = .ok (.istore_n 2, 1) := by decide +kernel
theorem dX5_onTheirWayIn_24 : decode cX5_onTheirWayIn 24 = .ok (.iinc 3 1, 3) := by decide +kernel
theorem dX5_onTheirWayIn_27 : decode cX5_onTheirWayIn 27 = .ok (.goto (-23), 3) := by decide +kernel
theorem dX5_onTheirWayIn_30 : decode cX5_onTheirWayIn 30 = .ok (.iload_n 2, 1) := by decide +kernel
theorem dX5_onTheirWayIn_31 : decode cX5_onTheirWayIn 31 = .ok (.ireturn, 1) := by decide +kernel
theorem dX5_untilNext_0 : decode cX5_untilNext 0 = .ok (.iconst 0, 1) := by decide +kernel
theorem dX5_untilNext_1 : decode cX5_untilNext 1 = .ok (.istore_n 2, 1) := by decide +kernel
theorem dX5_untilNext_2 : decode cX5_untilNext 2 = .ok (.iload_n 2, 1) := by decide +kernel
theorem dX5_untilNext_3 : decode cX5_untilNext 3 = .ok (.bipush 21, 2) := by decide +kernel
theorem dX5_untilNext_5 : decode cX5_untilNext 5 = .ok (.if_icmp .ge 33, 3) := by decide +kernel
theorem dX5_untilNext_8 : decode cX5_untilNext 8 = .ok (.aload_n 0, 1) := by decide +kernel
theorem dX5_untilNext_9 : decode cX5_untilNext 9 = .ok (.getfield 22, 3) := by decide +kernel
theorem dX5_untilNext_12 : decode cX5_untilNext 12 = .ok (.iload_n 1, 1) := by decide +kernel
theorem dX5_untilNext_13 : decode cX5_untilNext 13 = .ok (.bipush 21, 2) := by decide +kernel
theorem dX5_untilNext_15 : decode cX5_untilNext 15 = .ok (.imul, 1) := by decide +kernel
theorem dX5_untilNext_16 : decode cX5_untilNext 16 = .ok (.aload_n 0, 1) := by decide +kernel
theorem dX5_untilNext_17 : decode cX5_untilNext 17 = .ok (.getfield 31, 3) := by decide +kernel
theorem dX5_untilNext_20 : decode cX5_untilNext 20 = .ok (.iload_n 2, 1) := by decide +kernel
theorem dX5_untilNext_21 : decode cX5_untilNext 21 = .ok (.iadd, 1) := by decide +kernel
theorem dX5_untilNext_22 : decode cX5_untilNext 22 = .ok (.bipush 21, 2) := by decide +kernel
theorem dX5_untilNext_24 : decode cX5_untilNext 24 = .ok (.irem, 1) := by decide +kernel
theorem dX5_untilNext_25 : decode cX5_untilNext 25 = .ok (.iadd, 1) := by decide +kernel
theorem dX5_untilNext_26 : decode cX5_untilNext 26 = .ok (.iaload, 1) := by decide +kernel
theorem dX5_untilNext_27 : decode cX5_untilNext 27 = .ok (.ifCond .le 5, 3) := by decide +kernel
theorem dX5_untilNext_30 : decode cX5_untilNext 30 = .ok (.iload_n 2, 1) := by decide +kernel
theorem dX5_untilNext_31 : decode cX5_untilNext 31 = .ok (.ireturn, 1) := by decide +kernel
theorem dX5_untilNext_32 : decode cX5_untilNext 32 = .ok (.iinc 2 1, 3) := by decide +kernel
theorem dX5_untilNext_35 : decode cX5_untilNext 35 = .ok (.goto (-33), 3) := by decide +kernel
theorem dX5_untilNext_38 : decode cX5_untilNext 38 = .ok (.bipush (-6), 2) := by decide +kernel
theorem dX5_untilNext_40 : decode cX5_untilNext 40 = .ok (.ireturn, 1) := by decide +kernel
theorem dX5_throughAll_0 : decode cX5_throughAll 0 = .ok (.iconst 0, 1) := by decide +kernel
theorem dX5_throughAll_1 : decode cX5_throughAll 1 = .ok (.istore_n 1, 1) := by decide +kernel
theorem dX5_throughAll_2 : decode cX5_throughAll 2 = .ok (.iconst 0, 1) := by decide +kernel
theorem dX5_throughAll_3 : decode cX5_throughAll 3 = .ok (.istore_n 2, 1) := by decide +kernel
theorem dX5_throughAll_4 : decode cX5_throughAll 4 = .ok (.iload_n 2, 1) := by decide +kernel
theorem dX5_throughAll_5 : decode cX5_throughAll 5 = .ok (.aload_n 0, 1) := by decide +kernel
theorem dX5_throughAll_6 : decode cX5_throughAll 6 = .ok (.getfield 9, 3) := by decide +kernel
theorem dX5_throughAll_9 : decode cX5_throughAll 9 = .ok (.if_icmp .ge 18, 3) := by decide +kernel
theorem dX5_throughAll_12 : decode cX5_throughAll 12 = .ok (.iload_n 1, 1) := by decide +kernel
theorem dX5_throughAll_13 : decode cX5_throughAll 13 = .ok (.aload_n 0, 1) := by decide +kernel
theorem dX5_throughAll_14 : decode cX5_throughAll 14 = .ok (.getfield 15, 3) := by decide +kernel
theorem dX5_throughAll_17 : decode cX5_throughAll 17 = .ok (.iload_n 2, 1) := by decide +kernel
theorem dX5_throughAll_18 : decode cX5_throughAll 18 = .ok (.iaload, 1) := by decide +kernel
theorem dX5_throughAll_19 : decode cX5_throughAll 19 = .ok (.iadd, 1) := by decide +kernel
theorem dX5_throughAll_20 : decode cX5_throughAll 20 = .ok (.istore_n 1, 1) := by decide +kernel
theorem dX5_throughAll_21 : decode cX5_throughAll 21 = .ok (.iinc 2 1, 3) := by decide +kernel
theorem dX5_throughAll_24 : decode cX5_throughAll 24 = .ok (.goto (-20), 3) := by decide +kernel
theorem dX5_throughAll_27 : decode cX5_throughAll 27 = .ok (.iload_n 1, 1) := by decide +kernel
theorem dX5_throughAll_28 : decode cX5_throughAll 28 = .ok (.ireturn, 1) := by decide +kernel
set_option maxRecDepth 20000 in
theorem ggX5_wrongReadings_X5_readsTrue : GoodIn wsX5_wrongReadings wsX5_readsTrue := goodIn_r _ [6, 1, 7, 8, 9, 10, 11, 12, 13, 14, 15, 16, 17, 18] (by decide +kernel) (by decide +kernel)
set_option maxRecDepth 20000 in
theorem gX5_wrongReadings_X5_readsTrue : GoodIn wsX5_wrongReadings (wsV RX5 58 RX5 yX5_readsTrue wsX5_readsTrue) := goodIn_app (goodIn_of _ (by decide +kernel)) ggX5_wrongReadings_X5_readsTrue
theorem dX5_wrongReadings_0 : decode cX5_wrongReadings 0 = .ok (.iconst 0, 1) := by decide +kernel
theorem dX5_wrongReadings_1 : decode cX5_wrongReadings 1 = .ok (.istore_n 2, 1) := by decide +kernel
theorem dX5_wrongReadings_2 : decode cX5_wrongReadings 2 = .ok (.iconst 1, 1) := by decide +kernel
theorem dX5_wrongReadings_3 : decode cX5_wrongReadings 3 = .ok (.istore_n 3, 1) := by decide +kernel
theorem dX5_wrongReadings_4 : decode cX5_wrongReadings 4 = .ok (.iload_n 3, 1) := by decide +kernel
theorem dX5_wrongReadings_5 : decode cX5_wrongReadings 5 = .ok (.iconst 1, 1) := by decide +kernel
theorem dX5_wrongReadings_6 : decode cX5_wrongReadings 6 = .ok (.aload_n 0, 1) := by decide +kernel
theorem dX5_wrongReadings_7 : decode cX5_wrongReadings 7 = .ok (.getfield 9, 3) := by decide +kernel
theorem dX5_wrongReadings_10 : decode cX5_wrongReadings 10 = .ok (.ishl, 1) := by decide +kernel
theorem dX5_wrongReadings_11 : decode cX5_wrongReadings 11 = .ok (.if_icmp .gt 21, 3) := by decide +kernel
theorem dX5_wrongReadings_14 : decode cX5_wrongReadings 14 = .ok (.aload_n 0, 1) := by decide +kernel
theorem dX5_wrongReadings_15 : decode cX5_wrongReadings 15 = .ok (.iload_n 3, 1) := by decide +kernel
theorem dX5_wrongReadings_16 : decode cX5_wrongReadings 16 = .ok (.iload_n 1, 1) := by decide +kernel
theorem dX5_wrongReadings_17 : decode cX5_wrongReadings 17 = .ok (.invokevirtual 58, 3) := by decide +kernel
theorem dX5_wrongReadings_20 : decode cX5_wrongReadings 20 = .ok (.ifCond .ne 6, 3) := by decide +kernel
theorem dX5_wrongReadings_23 : decode cX5_wrongReadings 23 = .ok (.iinc 2 1, 3) := by decide +kernel
theorem dX5_wrongReadings_26 : decode cX5_wrongReadings 26 = .ok (.iinc 3 1, 3) := by decide +kernel
theorem dX5_wrongReadings_29 : decode cX5_wrongReadings 29 = .ok (.goto (-25), 3) := by decide +kernel
theorem dX5_wrongReadings_32 : decode cX5_wrongReadings 32 = .ok (.iload_n 2, 1) := by decide +kernel
theorem dX5_wrongReadings_33 : decode cX5_wrongReadings 33 = .ok (.ireturn, 1) := by decide +kernel
theorem dX5_readsTrue_0 : decode cX5_readsTrue 0 = .ok (.iconst 0, 1) := by decide +kernel
theorem dX5_readsTrue_1 : decode cX5_readsTrue 1 = .ok (.istore_n 3, 1) := by decide +kernel
theorem dX5_readsTrue_2 : decode cX5_readsTrue 2 = .ok (.iconst 0, 1) := by decide +kernel
theorem dX5_readsTrue_3 : decode cX5_readsTrue 3 = .ok (.istore 4, 2) := by decide +kernel
theorem dX5_readsTrue_5 : decode cX5_readsTrue 5 = .ok (.iload 4, 2) := by decide +kernel
theorem dX5_readsTrue_7 : decode cX5_readsTrue 7 = .ok (.aload_n 0, 1) := by decide +kernel
theorem dX5_readsTrue_8 : decode cX5_readsTrue 8 = .ok (.getfield 9, 3) := by decide +kernel
theorem dX5_readsTrue_11 : decode cX5_readsTrue 11 = .ok (.if_icmp .ge 44, 3) := by decide +kernel
theorem dX5_readsTrue_14 : decode cX5_readsTrue 14 = .ok (.iload_n 3, 1) := by decide +kernel
theorem dX5_readsTrue_15 : decode cX5_readsTrue 15 = .ok (.aload_n 0, 1) := by decide +kernel
theorem dX5_readsTrue_16 : decode cX5_readsTrue 16 = .ok (.getfield 15, 3) := by decide +kernel
theorem dX5_readsTrue_19 : decode cX5_readsTrue 19 = .ok (.iload 4, 2) := by decide +kernel
theorem dX5_readsTrue_21 : decode cX5_readsTrue 21 = .ok (.iaload, 1) := by decide +kernel
theorem dX5_readsTrue_22 : decode cX5_readsTrue 22 = .ok (.iadd, 1) := by decide +kernel
theorem dX5_readsTrue_23 : decode cX5_readsTrue 23 = .ok (.istore_n 3, 1) := by decide +kernel
theorem dX5_readsTrue_24 : decode cX5_readsTrue 24 = .ok (.iconst 0, 1) := by decide +kernel
theorem dX5_readsTrue_25 : decode cX5_readsTrue 25 = .ok (.iload_n 1, 1) := by decide +kernel
theorem dX5_readsTrue_26 : decode cX5_readsTrue 26 = .ok (.iload_n 3, 1) := by decide +kernel
theorem dX5_readsTrue_27 : decode cX5_readsTrue 27 = .ok (.iload_n 2, 1) := by decide +kernel
theorem dX5_readsTrue_28 : decode cX5_readsTrue 28 = .ok (.idiv, 1) := by decide +kernel
theorem dX5_readsTrue_29 : decode cX5_readsTrue 29 = .ok (.isub, 1) := by decide +kernel
theorem dX5_readsTrue_30 : decode cX5_readsTrue 30 = .ok (.invokestatic 62, 3) := by decide +kernel
theorem dX5_readsTrue_33 : decode cX5_readsTrue 33 = .ok (.istore 5, 2) := by decide +kernel
theorem dX5_readsTrue_35 : decode cX5_readsTrue 35 = .ok (.iload 5, 2) := by decide +kernel
theorem dX5_readsTrue_37 : decode cX5_readsTrue 37 = .ok (.iload_n 1, 1) := by decide +kernel
theorem dX5_readsTrue_38 : decode cX5_readsTrue 38 = .ok (.ixor, 1) := by decide +kernel
theorem dX5_readsTrue_39 : decode cX5_readsTrue 39 = .ok (.iload 4, 2) := by decide +kernel
theorem dX5_readsTrue_41 : decode cX5_readsTrue 41 = .ok (.ishr, 1) := by decide +kernel
theorem dX5_readsTrue_42 : decode cX5_readsTrue 42 = .ok (.iconst 1, 1) := by decide +kernel
theorem dX5_readsTrue_43 : decode cX5_readsTrue 43 = .ok (.iand, 1) := by decide +kernel
theorem dX5_readsTrue_44 : decode cX5_readsTrue 44 = .ok (.ifCond .eq 5, 3) := by decide +kernel
theorem dX5_readsTrue_47 : decode cX5_readsTrue 47 = .ok (.iconst 0, 1) := by decide +kernel
theorem dX5_readsTrue_48 : decode cX5_readsTrue 48 = .ok (.ireturn, 1) := by decide +kernel
theorem dX5_readsTrue_49 : decode cX5_readsTrue 49 = .ok (.iinc 4 1, 3) := by decide +kernel
theorem dX5_readsTrue_52 : decode cX5_readsTrue 52 = .ok (.goto (-47), 3) := by decide +kernel
theorem dX5_readsTrue_55 : decode cX5_readsTrue 55 = .ok (.iconst 1, 1) := by decide +kernel
theorem dX5_readsTrue_56 : decode cX5_readsTrue 56 = .ok (.ireturn, 1) := by decide +kernel
theorem dX5_turnOver_0 : decode cX5_turnOver 0 = .ok (.aload_n 0, 1) := by decide +kernel
theorem dX5_turnOver_1 : decode cX5_turnOver 1 = .ok (.getfield 34, 3) := by decide +kernel
theorem dX5_turnOver_4 : decode cX5_turnOver 4 = .ok (.iload_n 1, 1) := by decide +kernel
theorem dX5_turnOver_5 : decode cX5_turnOver 5 = .ok (.ishr, 1) := by decide +kernel
theorem dX5_turnOver_6 : decode cX5_turnOver 6 = .ok (.iconst 1, 1) := by decide +kernel
theorem dX5_turnOver_7 : decode cX5_turnOver 7 = .ok (.iand, 1) := by decide +kernel
theorem dX5_turnOver_8 : decode cX5_turnOver 8 = .ok (.iload_n 2, 1) := by decide +kernel
theorem dX5_turnOver_9 : decode cX5_turnOver 9 = .ok (.iadd, 1) := by decide +kernel
theorem dX5_turnOver_10 : decode cX5_turnOver 10 = .ok (.istore_n 3, 1) := by decide +kernel
theorem dX5_turnOver_11 : decode cX5_turnOver 11 = .ok (.aload_n 0, 1) := by decide +kernel
theorem dX5_turnOver_12 : decode cX5_turnOver 12 = .ok (.aload_n 0, 1) := by decide +kernel
theorem dX5_turnOver_13 : decode cX5_turnOver 13 = .ok (.getfield 34, 3) := by decide +kernel
theorem dX5_turnOver_16 : decode cX5_turnOver 16 = .ok (.iconst 1, 1) := by decide +kernel
theorem dX5_turnOver_17 : decode cX5_turnOver 17 = .ok (.iload_n 1, 1) := by decide +kernel
theorem dX5_turnOver_18 : decode cX5_turnOver 18 = .ok (.ishl, 1) := by decide +kernel
theorem dX5_turnOver_19 : decode cX5_turnOver 19 = .ok (.iconst (-1), 1) := by decide +kernel
theorem dX5_turnOver_20 : decode cX5_turnOver 20 = .ok (.ixor, 1) := by decide +kernel
theorem dX5_turnOver_21 : decode cX5_turnOver 21 = .ok (.iand, 1) := by decide +kernel
theorem dX5_turnOver_22 : decode cX5_turnOver 22 = .ok (.iload_n 3, 1) := by decide +kernel
theorem dX5_turnOver_23 : decode cX5_turnOver 23 = .ok (.iconst 1, 1) := by decide +kernel
theorem dX5_turnOver_24 : decode cX5_turnOver 24 = .ok (.iand, 1) := by decide +kernel
theorem dX5_turnOver_25 : decode cX5_turnOver 25 = .ok (.iload_n 1, 1) := by decide +kernel
theorem dX5_turnOver_26 : decode cX5_turnOver 26 = .ok (.ishl, 1) := by decide +kernel
theorem dX5_turnOver_27 : decode cX5_turnOver 27 = .ok (.ior, 1) := by decide +kernel
theorem dX5_turnOver_28 : decode cX5_turnOver 28 = .ok (.putfield 34, 3) := by decide +kernel
theorem dX5_turnOver_31 : decode cX5_turnOver 31 = .ok (.aload_n 0, 1) := by decide +kernel
theorem dX5_turnOver_32 : decode cX5_turnOver 32 = .ok (.getfield 19, 3) := by decide +kernel
theorem dX5_turnOver_35 : decode cX5_turnOver 35 = .ok (.iload_n 1, 1) := by decide +kernel
theorem dX5_turnOver_36 : decode cX5_turnOver 36 = .ok (.dup2, 1) := by decide +kernel
theorem dX5_turnOver_37 : decode cX5_turnOver 37 = .ok (.iaload, 1) := by decide +kernel
theorem dX5_turnOver_38 : decode cX5_turnOver 38 = .ok (.iload_n 2, 1) := by decide +kernel
theorem dX5_turnOver_39 : decode cX5_turnOver 39 = .ok (.iadd, 1) := by decide +kernel
theorem dX5_turnOver_40 : decode cX5_turnOver 40 = .ok (.iastore, 1) := by decide +kernel
theorem dX5_turnOver_41 : decode cX5_turnOver 41 = .ok (.iload_n 3, 1) := by decide +kernel
theorem dX5_turnOver_42 : decode cX5_turnOver 42 = .ok (.iconst 2, 1) := by decide +kernel
theorem dX5_turnOver_43 : decode cX5_turnOver 43 = .ok (.idiv, 1) := by decide +kernel
theorem dX5_turnOver_44 : decode cX5_turnOver 44 = .ok (.ireturn, 1) := by decide +kernel
end
section
/-! ===== numbers: mathematical integers as the machine's ints, rows as functions of an index ===== -/
def z_I (a : Int) : Int32 := Int32.ofInt a
def z_F (f : Int → Int) : Nat → Int32 := fun k => z_I (f (k : Int))
def z_u (f : Int → Int) (i v : Int) : Int → Int := fun j => if j = i then v else f j
theorem z_u_same (f : Int → Int) (i v : Int) : z_u f i v i = v := by simp [z_u]
theorem z_u_ne {f : Int → Int} {i v j : Int} (h : j ≠ i) : z_u f i v j = f j := by simp [z_u, h]
theorem z_I_toInt {a : Int} (h : -2147483648 ≤ a ∧ a < 2147483648) : (z_I a).toInt = a := Int32.toInt_ofInt_of_le (by omega) (by omega)
theorem z_I_of (x : Int32) : z_I x.toInt = x := Int32.ofInt_toInt x
theorem z_rng (x : Int32) : -2147483648 ≤ x.toInt ∧ x.toInt < 2147483648 := by
  have h1 := Int32.toInt_lt x
  have h2 := Int32.le_toInt x
  omega
theorem z_I_add (a b : Int) : z_I a + z_I b = z_I (a + b) := (Int32.ofInt_add a b).symm
theorem z_I_sub (a b : Int) : z_I a - z_I b = z_I (a - b) := (Int32.ofInt_sub a b).symm
theorem z_I_mul (a b : Int) : z_I a * z_I b = z_I (a * b) := (Int32.ofInt_mul a b).symm
theorem z_I_neg (a : Int) : - z_I a = z_I (- a) := (Int32.ofInt_neg a).symm
theorem z_I_inj {a b : Int} (ha : -2147483648 ≤ a ∧ a < 2147483648) (hb : -2147483648 ≤ b ∧ b < 2147483648) : z_I a = z_I b ↔ a = b := by
  refine ⟨fun h => ?_, fun h => by rw [h]⟩
  have h1 := congrArg Int32.toInt h
  rwa [z_I_toInt ha, z_I_toInt hb] at h1
theorem z_I_lt {a b : Int} (ha : -2147483648 ≤ a ∧ a < 2147483648) (hb : -2147483648 ≤ b ∧ b < 2147483648) : z_I a < z_I b ↔ a < b := by
  rw [Int32.lt_iff_toInt_lt, z_I_toInt ha, z_I_toInt hb]
theorem z_I_le {a b : Int} (ha : -2147483648 ≤ a ∧ a < 2147483648) (hb : -2147483648 ≤ b ∧ b < 2147483648) : z_I a ≤ z_I b ↔ a ≤ b := by
  rw [Int32.le_iff_toInt_le, z_I_toInt ha, z_I_toInt hb]
theorem z_I_rem {a b : Int} (ha : 0 ≤ a ∧ a < 2147483648) (hb : 0 < b ∧ b < 2147483648) : z_I a % z_I b = z_I (a % b) := by
  refine Int32.toInt_inj.mp ?_
  have h1 : a % b < b := Int.emod_lt_of_pos a hb.1
  have h2 : 0 ≤ a % b := Int.emod_nonneg a (by omega)
  rw [Int32.toInt_mod, z_I_toInt (by omega), z_I_toInt (by omega), z_I_toInt (by omega), Int.tmod_eq_emod_of_nonneg ha.1]
theorem z_I_div {a b : Int} (ha : 0 ≤ a ∧ a < 2147483648) (hb : 0 < b ∧ b < 2147483648) : z_I a / z_I b = z_I (a / b) := by
  refine Int32.toInt_inj.mp ?_
  have h2 : 0 ≤ a / b := Int.ediv_nonneg ha.1 (by omega)
  have h3 : a / b ≤ a := Int.ediv_le_self b ha.1
  rw [Int32.toInt_div_of_ne_right, z_I_toInt (by omega), z_I_toInt (by omega), z_I_toInt (by omega), Int.tdiv_eq_ediv_of_nonneg ha.1]
  intro h
  have h4 := congrArg Int32.toInt h
  rw [z_I_toInt (by omega)] at h4
  have : (-1 : Int32).toInt = -1 := by decide
  omega
theorem z_F_up {f : Int → Int} {i v : Int} (h0 : 0 ≤ i ∧ i < 2147483648) : upd (z_F f) (z_I i).toNatClampNeg (z_I v) = z_F (z_u f i v) := by
  have h1 : (z_I i).toNatClampNeg = i.toNat := by
    show (z_I i).toInt.toNat = i.toNat
    rw [z_I_toInt (by omega)]
  funext k
  rw [h1]
  unfold upd z_F z_u
  by_cases hk : k = i.toNat
  · have : (k : Int) = i := by omega
    simp [hk]
    have : (i.toNat : Int) = i := by omega
    rw [if_pos (by omega)]
  · rw [if_neg hk, if_neg (by omega)]
theorem z_F_at {f : Int → Int} {i : Int} (h0 : 0 ≤ i ∧ i < 2147483648) : z_F f (z_I i).toNatClampNeg = z_I (f i) := by
  have h1 : (z_I i).toNatClampNeg = i.toNat := by
    show (z_I i).toInt.toNat = i.toNat
    rw [z_I_toInt (by omega)]
  rw [h1]
  unfold z_F
  rw [show ((i.toNat : Nat) : Int) = i by omega]
theorem z_in {i : Int} {n : Nat} (h0 : 0 ≤ i) (h1 : i < n) (hn : n < 2147483648) : vp_in (z_I i) n := by
  rw [vp_in_iff, z_I_toInt (by omega)]
  omega
/-! ===== a stretch of a method: the world as a list of cells, the locals as a list, the stack ===== -/
/-- what stays while a method runs -/
def z_C (p : Program) (s : State) (m : MethodId) (args : Array Value) (meth : Method) (c : Code) (D : va_G) (tys : List (ClassId × FieldType)) (A : Nat → Prop) (cc : ByteArray) (nL : Nat) (own : String) (Ts : List Cond) (ret : Option FieldType) : Prop :=
  p.tables.exec = Jvm.exec ∧ c.code = cc ∧ c.maxLocals = nL ∧ s.vm.findClass own = some m.cls ∧ (∀ w ∈ Ts, w.before args s = true) ∧ va_K D vwCl tys s ∧ meth.sig.returnType = ret ∧ meth.locks = false ∧ (∀ q : Nat, s.heap.size ≤ q → A q)
def z_V (p : Program) (l : Launch) (e : Env) (R : Room) (s : State) (m : MethodId) (args : Array Value) (below : List Frame) (meth : Method) (c : Code) (D : va_G) (A : Nat → Prop) (nL cells slots : Nat) (Q : State → Prop) (ws : va_W) (pc : Nat) (lv : List (Nat × Value)) (st : List Value) : Prop :=
  ∀ (H : Heap) (locs : List Loc) (ls : Array Slot), va_P D vwCl ws H → va_D A ws → va_S A s.heap H locs → lv_has ls nL lv → W p l e R s m args below meth c H locs cells slots Q (F0 m pc ls st)
abbrev z_ai (cA : ClassId) (n : Nat) (f : Int → Int) : va_E := .inl (cA, n, .inl (z_F f))
def z_cp (f g : Int → Int) (sp dp n : Int) : Int → Int := fun j => if dp ≤ j ∧ j < dp + n then f (sp + (j - dp)) else g j
section ZV
variable {p : Program} {l : Launch} {e : Env} {R : Room} {s : State} {m : MethodId} {args : Array Value} {below : List Frame} {meth : Method} {c : Code} {D : va_G} {tys : List (ClassId × FieldType)} {A : Nat → Prop} {cc : ByteArray} {nL cells slots : Nat} {own : String} {Ts : List Cond} {ret : Option FieldType} {Q : State → Prop} {ws : va_W} {pc : Nat} {lv : List (Nat × Value)} {st : List Value}
theorem z_iconst (C : z_C p s m args meth c D tys A cc nL own Ts ret) (v : Int) (hdg : decode cc pc = .ok (.iconst v, 1)) (kk : z_V p l e R s m args below meth c D A nL cells slots Q ws (pc + 1) lv (.int (z_I v) :: st)) : z_V p l e R s m args below meth c D A nL cells slots Q ws pc lv st :=
  fun H locs ls hP hD hS h => lv_iconst C.1 C.2.1 hdg rfl (kk H locs ls hP hD hS h)
theorem z_bipush (C : z_C p s m args meth c D tys A cc nL own Ts ret) (v : Int) (hdg : decode cc pc = .ok (.bipush v, 2)) (hv : (Int8.ofInt v).toInt32 = z_I v) (kk : z_V p l e R s m args below meth c D A nL cells slots Q ws (pc + 2) lv (.int (z_I v) :: st)) : z_V p l e R s m args below meth c D A nL cells slots Q ws pc lv st :=
  fun H locs ls hP hD hS h => lv_bipush C.1 C.2.1 hdg hv (kk H locs ls hP hD hS h)
theorem z_sipush (C : z_C p s m args meth c D tys A cc nL own Ts ret) (v : Int) (hdg : decode cc pc = .ok (.sipush v, 3)) (hv : (Int16.ofInt v).toInt32 = z_I v) (kk : z_V p l e R s m args below meth c D A nL cells slots Q ws (pc + 3) lv (.int (z_I v) :: st)) : z_V p l e R s m args below meth c D A nL cells slots Q ws pc lv st :=
  fun H locs ls hP hD hS h => lv_sipush C.1 C.2.1 hdg hv (kk H locs ls hP hD hS h)
theorem z_iload_n (C : z_C p s m args meth c D tys A cc nL own Ts ret) (j : Nat) {k : Fin 4} {x : Int32} (hdg : decode cc pc = .ok (.iload_n k, 1)) (hl : lv[j]? = some ((k : Nat), .int x)) (kk : z_V p l e R s m args below meth c D A nL cells slots Q ws (pc + 1) lv (.int x :: st)) : z_V p l e R s m args below meth c D A nL cells slots Q ws pc lv st :=
  fun H locs ls hP hD hS h => lv_iload_n C.1 C.2.1 hdg rfl (lv_at h j hl) (kk H locs ls hP hD hS h)
theorem z_iload (C : z_C p s m args meth c D tys A cc nL own Ts ret) (j : Nat) {k : Nat} {x : Int32} (hdg : decode cc pc = .ok (.iload k, 2)) (hl : lv[j]? = some (k, .int x)) (kk : z_V p l e R s m args below meth c D A nL cells slots Q ws (pc + 2) lv (.int x :: st)) : z_V p l e R s m args below meth c D A nL cells slots Q ws pc lv st :=
  fun H locs ls hP hD hS h => lv_iload C.1 C.2.1 hdg (lv_at h j hl) (kk H locs ls hP hD hS h)
theorem z_lload_n (C : z_C p s m args meth c D tys A cc nL own Ts ret) (j : Nat) {k : Fin 4} {x : Int64} (hdg : decode cc pc = .ok (.lload_n k, 1)) (hl : lv[j]? = some ((k : Nat), .long x)) (kk : z_V p l e R s m args below meth c D A nL cells slots Q ws (pc + 1) lv (.long x :: st)) : z_V p l e R s m args below meth c D A nL cells slots Q ws pc lv st :=
  fun H locs ls hP hD hS h => lv_lload_n C.1 C.2.1 hdg rfl (lv_at h j hl) (kk H locs ls hP hD hS h)
theorem z_aload_n (C : z_C p s m args meth c D tys A cc nL own Ts ret) (j : Nat) {k : Fin 4} {x : Nat} (hdg : decode cc pc = .ok (.aload_n k, 1)) (hl : lv[j]? = some ((k : Nat), .ref x)) (kk : z_V p l e R s m args below meth c D A nL cells slots Q ws (pc + 1) lv (.ref x :: st)) : z_V p l e R s m args below meth c D A nL cells slots Q ws pc lv st :=
  fun H locs ls hP hD hS h => lv_aload_n C.1 C.2.1 hdg rfl (lv_at h j hl) (kk H locs ls hP hD hS h)
theorem z_istore_n (C : z_C p s m args meth c D tys A cc nL own Ts ret) (lv' : List (Nat × Value)) {k : Fin 4} {x : Int32} (hdg : decode cc pc = .ok (.istore_n k, 1)) (hn : (k : Nat) < nL) (hl : ((k : Nat), Value.int x) :: lv.filter (fun q => !(q.1 == (k : Nat)) && !(q.1 + 1 == (k : Nat) && q.2.category == 2)) = lv') (kk : z_V p l e R s m args below meth c D A nL cells slots Q ws (pc + 1) lv' st) : z_V p l e R s m args below meth c D A nL cells slots Q ws pc lv (.int x :: st) :=
  fun H locs _ hP hD hS h => lv_istore_n C.1 C.2.1 hdg rfl h hn hl (fun ls' h' => kk H locs ls' hP hD hS h')
theorem z_istore (C : z_C p s m args meth c D tys A cc nL own Ts ret) (lv' : List (Nat × Value)) {k : Nat} {x : Int32} (hdg : decode cc pc = .ok (.istore k, 2)) (hn : k < nL) (hl : (k, Value.int x) :: lv.filter (fun q => !(q.1 == k) && !(q.1 + 1 == k && q.2.category == 2)) = lv') (kk : z_V p l e R s m args below meth c D A nL cells slots Q ws (pc + 2) lv' st) : z_V p l e R s m args below meth c D A nL cells slots Q ws pc lv (.int x :: st) :=
  fun H locs _ hP hD hS h => lv_istore C.1 C.2.1 hdg h hn hl (fun ls' h' => kk H locs ls' hP hD hS h')
theorem z_lstore_n (C : z_C p s m args meth c D tys A cc nL own Ts ret) (lv' : List (Nat × Value)) {k : Fin 4} {x : Int64} (hdg : decode cc pc = .ok (.lstore_n k, 1)) (hn : (k : Nat) + 1 < nL) (hl : ((k : Nat), Value.long x) :: lv.filter (fun q => !(q.1 == (k : Nat)) && (!(q.1 == (k : Nat) + 1) && !(q.1 + 1 == (k : Nat) && q.2.category == 2))) = lv') (kk : z_V p l e R s m args below meth c D A nL cells slots Q ws (pc + 1) lv' st) : z_V p l e R s m args below meth c D A nL cells slots Q ws pc lv (.long x :: st) :=
  fun H locs _ hP hD hS h => lv_lstore_n C.1 C.2.1 hdg rfl h hn hl (fun ls' h' => kk H locs ls' hP hD hS h')
theorem z_astore_n (C : z_C p s m args meth c D tys A cc nL own Ts ret) (lv' : List (Nat × Value)) {k : Fin 4} {x : Nat} (hdg : decode cc pc = .ok (.astore_n k, 1)) (hn : (k : Nat) < nL) (hl : ((k : Nat), Value.ref x) :: lv.filter (fun q => !(q.1 == (k : Nat)) && !(q.1 + 1 == (k : Nat) && q.2.category == 2)) = lv') (kk : z_V p l e R s m args below meth c D A nL cells slots Q ws (pc + 1) lv' st) : z_V p l e R s m args below meth c D A nL cells slots Q ws pc lv (.ref x :: st) :=
  fun H locs _ hP hD hS h => lv_astore_n C.1 C.2.1 hdg rfl h hn hl (fun ls' h' => kk H locs ls' hP hD hS h')
theorem z_iinc (C : z_C p s m args meth c D tys A cc nL own Ts ret) (j : Nat) (lv' : List (Nat × Value)) {i : Nat} {n x : Int} (hdg : decode cc pc = .ok (.iinc i n, 3)) (hk : lv[j]? = some (i, .int (z_I x))) (hn : i < nL) (hl : (i, Value.int (z_I (x + n))) :: lv.filter (fun q => !(q.1 == i) && !(q.1 + 1 == i && q.2.category == 2)) = lv') (kk : z_V p l e R s m args below meth c D A nL cells slots Q ws (pc + 3) lv' st) : z_V p l e R s m args below meth c D A nL cells slots Q ws pc lv st :=
  fun H locs _ hP hD hS h => lv_iinc C.1 C.2.1 hdg h hk (z_I_add x n) hn hl (fun ls' h' => kk H locs ls' hP hD hS h')
theorem z_iadd (C : z_C p s m args meth c D tys A cc nL own Ts ret) {x y : Int} (hdg : decode cc pc = .ok (.iadd, 1)) (kk : z_V p l e R s m args below meth c D A nL cells slots Q ws (pc + 1) lv (.int (z_I (x + y)) :: st)) : z_V p l e R s m args below meth c D A nL cells slots Q ws pc lv (.int (z_I y) :: .int (z_I x) :: st) :=
  fun H locs ls hP hD hS h => lv_iadd C.1 C.2.1 hdg (by rw [z_I_add]; exact kk H locs ls hP hD hS h)
theorem z_isub (C : z_C p s m args meth c D tys A cc nL own Ts ret) {x y : Int} (hdg : decode cc pc = .ok (.isub, 1)) (kk : z_V p l e R s m args below meth c D A nL cells slots Q ws (pc + 1) lv (.int (z_I (x - y)) :: st)) : z_V p l e R s m args below meth c D A nL cells slots Q ws pc lv (.int (z_I y) :: .int (z_I x) :: st) :=
  fun H locs ls hP hD hS h => lv_isub C.1 C.2.1 hdg (by rw [z_I_sub]; exact kk H locs ls hP hD hS h)
theorem z_imul (C : z_C p s m args meth c D tys A cc nL own Ts ret) {x y : Int} (hdg : decode cc pc = .ok (.imul, 1)) (kk : z_V p l e R s m args below meth c D A nL cells slots Q ws (pc + 1) lv (.int (z_I (x * y)) :: st)) : z_V p l e R s m args below meth c D A nL cells slots Q ws pc lv (.int (z_I y) :: .int (z_I x) :: st) :=
  fun H locs ls hP hD hS h => lv_imul C.1 C.2.1 hdg (by rw [z_I_mul]; exact kk H locs ls hP hD hS h)
theorem z_irem (C : z_C p s m args meth c D tys A cc nL own Ts ret) {x y : Int} (hdg : decode cc pc = .ok (.irem, 1)) (hx : 0 ≤ x ∧ x < 2147483648) (hy : 0 < y ∧ y < 2147483648) (kk : z_V p l e R s m args below meth c D A nL cells slots Q ws (pc + 1) lv (.int (z_I (x % y)) :: st)) : z_V p l e R s m args below meth c D A nL cells slots Q ws pc lv (.int (z_I y) :: .int (z_I x) :: st) :=
  fun H locs ls hP hD hS h => lv_irem C.1 C.2.1 hdg (fun h0 => by
    have h1 := (z_I_inj (a := y) (b := 0) (by omega) (by omega)).mp h0
    omega) (by rw [z_I_div ⟨hx.1, hx.2⟩ hy, z_I_mul, z_I_sub, show x - x / y * y = x % y by rw [Int.emod_def, Int.mul_comm]]; exact kk H locs ls hP hD hS h)
theorem z_idiv (C : z_C p s m args meth c D tys A cc nL own Ts ret) {x y : Int} (hdg : decode cc pc = .ok (.idiv, 1)) (hx : 0 ≤ x ∧ x < 2147483648) (hy : 0 < y ∧ y < 2147483648) (kk : z_V p l e R s m args below meth c D A nL cells slots Q ws (pc + 1) lv (.int (z_I (x / y)) :: st)) : z_V p l e R s m args below meth c D A nL cells slots Q ws pc lv (.int (z_I y) :: .int (z_I x) :: st) :=
  fun H locs ls hP hD hS h => lv_idiv C.1 C.2.1 hdg (fun h0 => by
    have h1 := (z_I_inj (a := y) (b := 0) (by omega) (by omega)).mp h0
    omega) (by rw [z_I_div hx hy]; exact kk H locs ls hP hD hS h)
theorem z_iand (C : z_C p s m args meth c D tys A cc nL own Ts ret) {x y : Int} (r : Int) (hdg : decode cc pc = .ok (.iand, 1)) (hr : z_I x &&& z_I y = z_I r) (kk : z_V p l e R s m args below meth c D A nL cells slots Q ws (pc + 1) lv (.int (z_I r) :: st)) : z_V p l e R s m args below meth c D A nL cells slots Q ws pc lv (.int (z_I y) :: .int (z_I x) :: st) :=
  fun H locs ls hP hD hS h => lv_iand C.1 C.2.1 hdg (by rw [hr]; exact kk H locs ls hP hD hS h)
theorem z_ior (C : z_C p s m args meth c D tys A cc nL own Ts ret) {x y : Int} (r : Int) (hdg : decode cc pc = .ok (.ior, 1)) (hr : z_I x ||| z_I y = z_I r) (kk : z_V p l e R s m args below meth c D A nL cells slots Q ws (pc + 1) lv (.int (z_I r) :: st)) : z_V p l e R s m args below meth c D A nL cells slots Q ws pc lv (.int (z_I y) :: .int (z_I x) :: st) :=
  fun H locs ls hP hD hS h => lv_ior C.1 C.2.1 hdg (by rw [hr]; exact kk H locs ls hP hD hS h)
theorem z_ixor (C : z_C p s m args meth c D tys A cc nL own Ts ret) {x y : Int} (r : Int) (hdg : decode cc pc = .ok (.ixor, 1)) (hr : z_I x ^^^ z_I y = z_I r) (kk : z_V p l e R s m args below meth c D A nL cells slots Q ws (pc + 1) lv (.int (z_I r) :: st)) : z_V p l e R s m args below meth c D A nL cells slots Q ws pc lv (.int (z_I y) :: .int (z_I x) :: st) :=
  fun H locs ls hP hD hS h => lv_ixor C.1 C.2.1 hdg (by rw [hr]; exact kk H locs ls hP hD hS h)
theorem z_ishl (C : z_C p s m args meth c D tys A cc nL own Ts ret) {x y : Int} (r : Int) (hdg : decode cc pc = .ok (.ishl, 1)) (hr : z_I x <<< (z_I y &&& 31) = z_I r) (kk : z_V p l e R s m args below meth c D A nL cells slots Q ws (pc + 1) lv (.int (z_I r) :: st)) : z_V p l e R s m args below meth c D A nL cells slots Q ws pc lv (.int (z_I y) :: .int (z_I x) :: st) :=
  fun H locs ls hP hD hS h => lv_ishl C.1 C.2.1 hdg (by rw [hr]; exact kk H locs ls hP hD hS h)
theorem z_ishr (C : z_C p s m args meth c D tys A cc nL own Ts ret) {x y : Int} (r : Int) (hdg : decode cc pc = .ok (.ishr, 1)) (hr : z_I x >>> (z_I y &&& 31) = z_I r) (kk : z_V p l e R s m args below meth c D A nL cells slots Q ws (pc + 1) lv (.int (z_I r) :: st)) : z_V p l e R s m args below meth c D A nL cells slots Q ws pc lv (.int (z_I y) :: .int (z_I x) :: st) :=
  fun H locs ls hP hD hS h => lv_ishr C.1 C.2.1 hdg (by rw [hr]; exact kk H locs ls hP hD hS h)
theorem z_dup (C : z_C p s m args meth c D tys A cc nL own Ts ret) {v : Value} (hdg : decode cc pc = .ok (.dup, 1)) (hv : v.category = 1) (kk : z_V p l e R s m args below meth c D A nL cells slots Q ws (pc + 1) lv (v :: v :: st)) : z_V p l e R s m args below meth c D A nL cells slots Q ws pc lv (v :: st) :=
  fun H locs ls hP hD hS h => lv_dup C.1 C.2.1 hdg hv (kk H locs ls hP hD hS h)
theorem z_dup2 (C : z_C p s m args meth c D tys A cc nL own Ts ret) {v w : Value} (hdg : decode cc pc = .ok (.dup2, 1)) (hv : v.category = 1) (hw : w.category = 1) (kk : z_V p l e R s m args below meth c D A nL cells slots Q ws (pc + 1) lv (v :: w :: v :: w :: st)) : z_V p l e R s m args below meth c D A nL cells slots Q ws pc lv (v :: w :: st) :=
  fun H locs ls hP hD hS h => lv_dup2_11 C.1 C.2.1 hdg hv hw (kk H locs ls hP hD hS h)
theorem z_dup_x1 (C : z_C p s m args meth c D tys A cc nL own Ts ret) {v w : Value} (hdg : decode cc pc = .ok (.dup_x1, 1)) (hv : v.category = 1) (hw : w.category = 1) (kk : z_V p l e R s m args below meth c D A nL cells slots Q ws (pc + 1) lv (v :: w :: v :: st)) : z_V p l e R s m args below meth c D A nL cells slots Q ws pc lv (v :: w :: st) :=
  fun H locs ls hP hD hS h => lv_dup_x1 C.1 C.2.1 hdg hv hw (kk H locs ls hP hD hS h)
theorem z_pop (C : z_C p s m args meth c D tys A cc nL own Ts ret) {v : Value} (hdg : decode cc pc = .ok (.pop, 1)) (hv : v.category = 1) (kk : z_V p l e R s m args below meth c D A nL cells slots Q ws (pc + 1) lv st) : z_V p l e R s m args below meth c D A nL cells slots Q ws pc lv (v :: st) :=
  fun H locs ls hP hD hS h => lv_pop C.1 C.2.1 hdg hv (kk H locs ls hP hD hS h)
theorem z_goto (C : z_C p s m args meth c D tys A cc nL own Ts ret) (tgt : Nat) {off : Int} (hdg : decode cc pc = .ok (.goto off, 3)) (ht : (pc : Int) + off = (tgt : Int)) (kk : z_V p l e R s m args below meth c D A nL cells slots Q ws tgt lv st) : z_V p l e R s m args below meth c D A nL cells slots Q ws pc lv st :=
  fun H locs ls hP hD hS h => lv_goto C.1 C.2.1 hdg ht (kk H locs ls hP hD hS h)
theorem z_icmp_eq (C : z_C p s m args meth c D tys A cc nL own Ts ret) {x y off : Int} (tgt : Nat) (hdg : decode cc pc = .ok (.if_icmp .eq off, 3)) (ht : (pc : Int) + off = (tgt : Int)) (hx : -2147483648 ≤ x ∧ x < 2147483648) (hy : -2147483648 ≤ y ∧ y < 2147483648) (kt : x = y → z_V p l e R s m args below meth c D A nL cells slots Q ws tgt lv st) (kf : ¬ x = y → z_V p l e R s m args below meth c D A nL cells slots Q ws (pc + 3) lv st) : z_V p l e R s m args below meth c D A nL cells slots Q ws pc lv (.int (z_I y) :: .int (z_I x) :: st) :=
  fun H locs ls hP hD hS h => lv_icmp_eq C.1 C.2.1 hdg ht (fun q => kt ((z_I_inj hx hy).mp q) H locs ls hP hD hS h) (fun q => kf (fun z => q ((z_I_inj hx hy).mpr z)) H locs ls hP hD hS h)
theorem z_if_eq (C : z_C p s m args meth c D tys A cc nL own Ts ret) {x off : Int} (tgt : Nat) (hdg : decode cc pc = .ok (.ifCond .eq off, 3)) (ht : (pc : Int) + off = (tgt : Int)) (hx : -2147483648 ≤ x ∧ x < 2147483648) (kt : x = 0 → z_V p l e R s m args below meth c D A nL cells slots Q ws tgt lv st) (kf : ¬ x = 0 → z_V p l e R s m args below meth c D A nL cells slots Q ws (pc + 3) lv st) : z_V p l e R s m args below meth c D A nL cells slots Q ws pc lv (.int (z_I x) :: st) :=
  fun H locs ls hP hD hS h => lv_if_eq C.1 C.2.1 hdg ht (fun q => kt ((z_I_inj hx (b := 0) (by omega)).mp q) H locs ls hP hD hS h) (fun q => kf (fun z => q ((z_I_inj hx (b := 0) (by omega)).mpr z)) H locs ls hP hD hS h)
theorem z_icmp_ne (C : z_C p s m args meth c D tys A cc nL own Ts ret) {x y off : Int} (tgt : Nat) (hdg : decode cc pc = .ok (.if_icmp .ne off, 3)) (ht : (pc : Int) + off = (tgt : Int)) (hx : -2147483648 ≤ x ∧ x < 2147483648) (hy : -2147483648 ≤ y ∧ y < 2147483648) (kt : ¬ x = y → z_V p l e R s m args below meth c D A nL cells slots Q ws tgt lv st) (kf : x = y → z_V p l e R s m args below meth c D A nL cells slots Q ws (pc + 3) lv st) : z_V p l e R s m args below meth c D A nL cells slots Q ws pc lv (.int (z_I y) :: .int (z_I x) :: st) :=
  fun H locs ls hP hD hS h => lv_icmp_ne C.1 C.2.1 hdg ht (fun q => kt (fun z => q (by rw [z])) H locs ls hP hD hS h) (fun q => kf ((z_I_inj hx hy).mp q) H locs ls hP hD hS h)
theorem z_if_ne (C : z_C p s m args meth c D tys A cc nL own Ts ret) {x off : Int} (tgt : Nat) (hdg : decode cc pc = .ok (.ifCond .ne off, 3)) (ht : (pc : Int) + off = (tgt : Int)) (hx : -2147483648 ≤ x ∧ x < 2147483648) (kt : ¬ x = 0 → z_V p l e R s m args below meth c D A nL cells slots Q ws tgt lv st) (kf : x = 0 → z_V p l e R s m args below meth c D A nL cells slots Q ws (pc + 3) lv st) : z_V p l e R s m args below meth c D A nL cells slots Q ws pc lv (.int (z_I x) :: st) :=
  fun H locs ls hP hD hS h => lv_if_ne C.1 C.2.1 hdg ht (fun q => kt (fun z => q (by rw [z]; rfl)) H locs ls hP hD hS h) (fun q => kf ((z_I_inj hx (b := 0) (by omega)).mp q) H locs ls hP hD hS h)
theorem z_icmp_lt (C : z_C p s m args meth c D tys A cc nL own Ts ret) {x y off : Int} (tgt : Nat) (hdg : decode cc pc = .ok (.if_icmp .lt off, 3)) (ht : (pc : Int) + off = (tgt : Int)) (hx : -2147483648 ≤ x ∧ x < 2147483648) (hy : -2147483648 ≤ y ∧ y < 2147483648) (kt : x < y → z_V p l e R s m args below meth c D A nL cells slots Q ws tgt lv st) (kf : ¬ x < y → z_V p l e R s m args below meth c D A nL cells slots Q ws (pc + 3) lv st) : z_V p l e R s m args below meth c D A nL cells slots Q ws pc lv (.int (z_I y) :: .int (z_I x) :: st) :=
  fun H locs ls hP hD hS h => lv_icmp_lt C.1 C.2.1 hdg ht (fun q => kt ((z_I_lt hx hy).mp q) H locs ls hP hD hS h) (fun q => kf (fun z => q ((z_I_lt hx hy).mpr z)) H locs ls hP hD hS h)
theorem z_if_lt (C : z_C p s m args meth c D tys A cc nL own Ts ret) {x off : Int} (tgt : Nat) (hdg : decode cc pc = .ok (.ifCond .lt off, 3)) (ht : (pc : Int) + off = (tgt : Int)) (hx : -2147483648 ≤ x ∧ x < 2147483648) (kt : x < 0 → z_V p l e R s m args below meth c D A nL cells slots Q ws tgt lv st) (kf : ¬ x < 0 → z_V p l e R s m args below meth c D A nL cells slots Q ws (pc + 3) lv st) : z_V p l e R s m args below meth c D A nL cells slots Q ws pc lv (.int (z_I x) :: st) :=
  fun H locs ls hP hD hS h => lv_if_lt C.1 C.2.1 hdg ht (fun q => kt ((z_I_lt hx (b := 0) (by omega)).mp q) H locs ls hP hD hS h) (fun q => kf (fun z => q ((z_I_lt hx (b := 0) (by omega)).mpr z)) H locs ls hP hD hS h)
theorem z_icmp_ge (C : z_C p s m args meth c D tys A cc nL own Ts ret) {x y off : Int} (tgt : Nat) (hdg : decode cc pc = .ok (.if_icmp .ge off, 3)) (ht : (pc : Int) + off = (tgt : Int)) (hx : -2147483648 ≤ x ∧ x < 2147483648) (hy : -2147483648 ≤ y ∧ y < 2147483648) (kt : y ≤ x → z_V p l e R s m args below meth c D A nL cells slots Q ws tgt lv st) (kf : ¬ y ≤ x → z_V p l e R s m args below meth c D A nL cells slots Q ws (pc + 3) lv st) : z_V p l e R s m args below meth c D A nL cells slots Q ws pc lv (.int (z_I y) :: .int (z_I x) :: st) :=
  fun H locs ls hP hD hS h => lv_icmp_ge C.1 C.2.1 hdg ht (fun q => kt ((z_I_le hy hx).mp q) H locs ls hP hD hS h) (fun q => kf (fun z => q ((z_I_le hy hx).mpr z)) H locs ls hP hD hS h)
theorem z_if_ge (C : z_C p s m args meth c D tys A cc nL own Ts ret) {x off : Int} (tgt : Nat) (hdg : decode cc pc = .ok (.ifCond .ge off, 3)) (ht : (pc : Int) + off = (tgt : Int)) (hx : -2147483648 ≤ x ∧ x < 2147483648) (kt : 0 ≤ x → z_V p l e R s m args below meth c D A nL cells slots Q ws tgt lv st) (kf : ¬ 0 ≤ x → z_V p l e R s m args below meth c D A nL cells slots Q ws (pc + 3) lv st) : z_V p l e R s m args below meth c D A nL cells slots Q ws pc lv (.int (z_I x) :: st) :=
  fun H locs ls hP hD hS h => lv_if_ge C.1 C.2.1 hdg ht (fun q => kt ((z_I_le (a := 0) (by omega) hx).mp q) H locs ls hP hD hS h) (fun q => kf (fun z => q ((z_I_le (a := 0) (by omega) hx).mpr z)) H locs ls hP hD hS h)
theorem z_icmp_gt (C : z_C p s m args meth c D tys A cc nL own Ts ret) {x y off : Int} (tgt : Nat) (hdg : decode cc pc = .ok (.if_icmp .gt off, 3)) (ht : (pc : Int) + off = (tgt : Int)) (hx : -2147483648 ≤ x ∧ x < 2147483648) (hy : -2147483648 ≤ y ∧ y < 2147483648) (kt : y < x → z_V p l e R s m args below meth c D A nL cells slots Q ws tgt lv st) (kf : ¬ y < x → z_V p l e R s m args below meth c D A nL cells slots Q ws (pc + 3) lv st) : z_V p l e R s m args below meth c D A nL cells slots Q ws pc lv (.int (z_I y) :: .int (z_I x) :: st) :=
  fun H locs ls hP hD hS h => lv_icmp_gt C.1 C.2.1 hdg ht (fun q => kt ((z_I_lt hy hx).mp q) H locs ls hP hD hS h) (fun q => kf (fun z => q ((z_I_lt hy hx).mpr z)) H locs ls hP hD hS h)
theorem z_if_gt (C : z_C p s m args meth c D tys A cc nL own Ts ret) {x off : Int} (tgt : Nat) (hdg : decode cc pc = .ok (.ifCond .gt off, 3)) (ht : (pc : Int) + off = (tgt : Int)) (hx : -2147483648 ≤ x ∧ x < 2147483648) (kt : 0 < x → z_V p l e R s m args below meth c D A nL cells slots Q ws tgt lv st) (kf : ¬ 0 < x → z_V p l e R s m args below meth c D A nL cells slots Q ws (pc + 3) lv st) : z_V p l e R s m args below meth c D A nL cells slots Q ws pc lv (.int (z_I x) :: st) :=
  fun H locs ls hP hD hS h => lv_if_gt C.1 C.2.1 hdg ht (fun q => kt ((z_I_lt (a := 0) (by omega) hx).mp q) H locs ls hP hD hS h) (fun q => kf (fun z => q ((z_I_lt (a := 0) (by omega) hx).mpr z)) H locs ls hP hD hS h)
theorem z_icmp_le (C : z_C p s m args meth c D tys A cc nL own Ts ret) {x y off : Int} (tgt : Nat) (hdg : decode cc pc = .ok (.if_icmp .le off, 3)) (ht : (pc : Int) + off = (tgt : Int)) (hx : -2147483648 ≤ x ∧ x < 2147483648) (hy : -2147483648 ≤ y ∧ y < 2147483648) (kt : x ≤ y → z_V p l e R s m args below meth c D A nL cells slots Q ws tgt lv st) (kf : ¬ x ≤ y → z_V p l e R s m args below meth c D A nL cells slots Q ws (pc + 3) lv st) : z_V p l e R s m args below meth c D A nL cells slots Q ws pc lv (.int (z_I y) :: .int (z_I x) :: st) :=
  fun H locs ls hP hD hS h => lv_icmp_le C.1 C.2.1 hdg ht (fun q => kt ((z_I_le hx hy).mp q) H locs ls hP hD hS h) (fun q => kf (fun z => q ((z_I_le hx hy).mpr z)) H locs ls hP hD hS h)
theorem z_if_le (C : z_C p s m args meth c D tys A cc nL own Ts ret) {x off : Int} (tgt : Nat) (hdg : decode cc pc = .ok (.ifCond .le off, 3)) (ht : (pc : Int) + off = (tgt : Int)) (hx : -2147483648 ≤ x ∧ x < 2147483648) (kt : x ≤ 0 → z_V p l e R s m args below meth c D A nL cells slots Q ws tgt lv st) (kf : ¬ x ≤ 0 → z_V p l e R s m args below meth c D A nL cells slots Q ws (pc + 3) lv st) : z_V p l e R s m args below meth c D A nL cells slots Q ws pc lv (.int (z_I x) :: st) :=
  fun H locs ls hP hD hS h => lv_if_le C.1 C.2.1 hdg ht (fun q => kt ((z_I_le hx (b := 0) (by omega)).mp q) H locs ls hP hD hS h) (fun q => kf (fun z => q ((z_I_le hx (b := 0) (by omega)).mpr z)) H locs ls hP hD hS h)
theorem z_get (C : z_C p s m args meth c D tys A cc nL own Ts ret) (q0 k : Nat) {a index ci N : Nat} {ref Cn : String} {T : u_T} {fs : List Value} {v : Value} (hin : ∀ w ∈ u_ws Cn T N, w ∈ Ts) (he : ws[q0]? = some (a, .inr (ci, fs))) (hc : vwCl[ci]? = some (Cn, T, N)) (hk : k < N) (hlink : Cond.fieldLink own index ref (T k).2.1 (T k).2.2.1 ∈ Ts) (href : (T k).1 = ref) (hv : fs[k]? = some v) (hdg : decode cc pc = .ok (.getfield index, 3)) (kk : z_V p l e R s m args below meth c D A nL cells slots Q ws (pc + 3) lv (v :: st)) : z_V p l e R s m args below meth c D A nL cells slots Q ws pc lv (.ref a :: st) :=
  fun H locs ls hP hD hS h => va_get C.1 C.2.1 C.2.2.2.2.1 hin C.2.2.2.1 C.2.2.2.2.2.1 hP q0 he hc k hk (C.2.2.2.2.1 _ hlink) (fun x hx => by rw [← href]; exact hx) hv hdg (kk H locs ls hP hD hS h)
theorem z_put (C : z_C p s m args meth c D tys A cc nL own Ts ret) (q0 k : Nat) (ws' : va_W) {a index ci N : Nat} {ref Cn : String} {T : u_T} {ty0 : Nat → FieldType} {fs : List Value} {v : Value} (hin : ∀ w ∈ u_ws Cn T N, w ∈ Ts) (hty : ∀ k, k < N → parseFieldDescriptor (T k).2.2.1 = some (ty0 k)) (hnm : ∀ a, a < N → ∀ b, b < N → a ≠ b → (T a).2.1 ≠ (T b).2.1) (he : ws[q0]? = some (a, .inr (ci, fs))) (hc : vwCl[ci]? = some (Cn, T, N)) (hk : k < N) (hlink : Cond.fieldLink own index ref (T k).2.1 (T k).2.2.1 ∈ Ts) (href : (T k).1 = ref) (hfin : (T k).2.2.2 = false) (hn : narrow (ty0 k) v = v) (hfit : fits (ty0 k) v = true) (hl : k < fs.length) (hws : ws.set q0 (a, .inr (ci, fs.set k v)) = ws') (hdg : decode cc pc = .ok (.putfield index, 3)) (kk : z_V p l e R s m args below meth c D A nL cells slots Q ws' (pc + 3) lv st) : z_V p l e R s m args below meth c D A nL cells slots Q ws pc lv (v :: .ref a :: st) :=
  fun H locs ls hP hD hS h => va_put C.1 C.2.1 C.2.2.2.2.1 hin ty0 hty hnm C.2.2.2.1 C.2.2.2.2.2.1 hP hD hS q0 he hc k hk (C.2.2.2.2.1 _ hlink) (fun x hx => by rw [← href]; exact hx) hfin (hty k hk) hn hfit hl hdg (fun H1 locs1 hP1 hD1 hS1 => kk H1 locs1 ls (hws ▸ hP1) (hws ▸ hD1) hS1 h)
theorem z_putF (C : z_C p s m args meth c D tys A cc nL own Ts ret) (q0 k : Nat) (ws' : va_W) {a index ci N : Nat} {ref Cn : String} {T : u_T} {ty0 : Nat → FieldType} {fs : List Value} {v : Value} (hinit : meth.name = "<init>") (hin : ∀ w ∈ u_ws Cn T N, w ∈ Ts) (hty : ∀ k, k < N → parseFieldDescriptor (T k).2.2.1 = some (ty0 k)) (hnm : ∀ a, a < N → ∀ b, b < N → a ≠ b → (T a).2.1 ≠ (T b).2.1) (he : ws[q0]? = some (a, .inr (ci, fs))) (hc : vwCl[ci]? = some (Cn, T, N)) (hk : k < N) (hlink : Cond.fieldLink own index ref (T k).2.1 (T k).2.2.1 ∈ Ts) (href : (T k).1 = ref) (hfin : (T k).2.2.2 = true) (hdecl : (T k).1 = own) (hn : narrow (ty0 k) v = v) (hfit : fits (ty0 k) v = true) (hl : k < fs.length) (hws : ws.set q0 (a, .inr (ci, fs.set k v)) = ws') (hdg : decode cc pc = .ok (.putfield index, 3)) (kk : z_V p l e R s m args below meth c D A nL cells slots Q ws' (pc + 3) lv st) : z_V p l e R s m args below meth c D A nL cells slots Q ws pc lv (v :: .ref a :: st) :=
  fun H locs ls hP hD hS h => va_putF C.1 C.2.1 C.2.2.2.2.1 hin ty0 hty hnm C.2.2.2.1 C.2.2.2.2.2.1 hP hD hS q0 he hc k hk (C.2.2.2.2.1 _ hlink) (fun x hx => by rw [← href]; exact hx) hfin hinit hdecl (hty k hk) hn hfit hl hdg (fun H1 locs1 hP1 hD1 hS1 => kk H1 locs1 ls (hws ▸ hP1) (hws ▸ hD1) hS1 h)
theorem z_iald (C : z_C p s m args meth c D tys A cc nL own Ts ret) (q0 t0 : Nat) {a n : Nat} {cA : ClassId} {f : Int → Int} {i : Int} (ha : ws[q0]? = some (a, z_ai cA n f)) (ht : tys[t0]? = some (cA, .int)) (hn : n < 2147483648) (h0 : 0 ≤ i ∧ i < (n : Int)) (hdg : decode cc pc = .ok (.iaload, 1)) (kk : z_V p l e R s m args below meth c D A nL cells slots Q ws (pc + 1) lv (.int (z_I (f i)) :: st)) : z_V p l e R s m args below meth c D A nL cells slots Q ws pc lv (.int (z_I i) :: .ref a :: st) :=
  fun H locs ls hP hD hS h => va_iald C.1 C.2.1 C.2.2.2.2.2.1 hP q0 t0 ha ht (z_in h0.1 h0.2 hn) hdg (by rw [z_F_at (by omega)]; exact kk H locs ls hP hD hS h)
theorem z_zald (C : z_C p s m args meth c D tys A cc nL own Ts ret) (q0 t0 : Nat) {a n : Nat} {cA : ClassId} {f : Int → Int} {i : Int} (ha : ws[q0]? = some (a, z_ai cA n f)) (ht : tys[t0]? = some (cA, .boolean)) (hn : n < 2147483648) (h0 : 0 ≤ i ∧ i < (n : Int)) (hdg : decode cc pc = .ok (.baload, 1)) (kk : z_V p l e R s m args below meth c D A nL cells slots Q ws (pc + 1) lv (.int (z_I (f i)) :: st)) : z_V p l e R s m args below meth c D A nL cells slots Q ws pc lv (.int (z_I i) :: .ref a :: st) :=
  fun H locs ls hP hD hS h => va_zald C.1 C.2.1 C.2.2.2.2.2.1 hP q0 t0 ha ht (z_in h0.1 h0.2 hn) hdg (by rw [z_F_at (by omega)]; exact kk H locs ls hP hD hS h)
theorem z_iast (C : z_C p s m args meth c D tys A cc nL own Ts ret) (q0 t0 : Nat) (ws' : va_W) {a n : Nat} {cA : ClassId} {f : Int → Int} {i x : Int} (ha : ws[q0]? = some (a, z_ai cA n f)) (ht : tys[t0]? = some (cA, .int)) (hn : n < 2147483648) (h0 : 0 ≤ i ∧ i < (n : Int)) (hws : ws.set q0 (a, z_ai cA n (z_u f i x)) = ws') (hdg : decode cc pc = .ok (.iastore, 1)) (kk : z_V p l e R s m args below meth c D A nL cells slots Q ws' (pc + 1) lv st) : z_V p l e R s m args below meth c D A nL cells slots Q ws pc lv (.int (z_I x) :: .int (z_I i) :: .ref a :: st) :=
  fun H locs ls hP hD hS h => va_iast C.1 C.2.1 C.2.2.2.2.2.1 hP hD hS q0 t0 ha ht (z_in h0.1 h0.2 hn) hdg (fun H1 locs1 hP1 hD1 hS1 => by
    rw [z_F_up (by omega)] at hP1 hD1
    exact kk H1 locs1 ls (hws ▸ hP1) (hws ▸ hD1) hS1 h)
theorem z_zast (C : z_C p s m args meth c D tys A cc nL own Ts ret) (q0 t0 : Nat) (ws' : va_W) {a n : Nat} {cA : ClassId} {f : Int → Int} {i x : Int} (ha : ws[q0]? = some (a, z_ai cA n f)) (ht : tys[t0]? = some (cA, .boolean)) (hn : n < 2147483648) (h0 : 0 ≤ i ∧ i < (n : Int)) (hx : vp_nar .boolean (z_I x) = z_I x) (hws : ws.set q0 (a, z_ai cA n (z_u f i x)) = ws') (hdg : decode cc pc = .ok (.bastore, 1)) (kk : z_V p l e R s m args below meth c D A nL cells slots Q ws' (pc + 1) lv st) : z_V p l e R s m args below meth c D A nL cells slots Q ws pc lv (.int (z_I x) :: .int (z_I i) :: .ref a :: st) :=
  fun H locs ls hP hD hS h => va_zast C.1 C.2.1 C.2.2.2.2.2.1 hP hD hS q0 t0 ha ht (z_in h0.1 h0.2 hn) hdg (fun H1 locs1 hP1 hD1 hS1 => by
    rw [hx, z_F_up (by omega)] at hP1 hD1
    exact kk H1 locs1 ls (hws ▸ hP1) (hws ▸ hD1) hS1 h)
theorem z_look (C : z_C p s m args meth c D tys A cc nL own Ts ret) (tgt : Nat) {dflt : Int} {ps : Array (Int × Int)} {len : Nat} {x : Int} {off : Int} (hdg : decode cc pc = .ok (.lookupswitch dflt ps, len)) (hp : (ps.toList.zip (ps.toList.drop 1)).all (fun (a, next) => a.1 < next.1) = true) (hx : -2147483648 ≤ x ∧ x < 2147483648) (ho : Op.lookupswitch.offset ps.toList dflt x = off) (ht : (pc : Int) + off = (tgt : Int)) (kk : z_V p l e R s m args below meth c D A nL cells slots Q ws tgt lv st) : z_V p l e R s m args below meth c D A nL cells slots Q ws pc lv (.int (z_I x) :: st) :=
  fun H locs ls hP hD hS h => lv_lookup C.1 C.2.1 hdg hp (by rw [z_I_toInt hx]; exact ho) ht (kk H locs ls hP hD hS h)
theorem z_tabO (C : z_C p s m args meth c D tys A cc nL own Ts ret) (tgt : Nat) {dflt lo hi : Int} {offs : Array Int} {len : Nat} {x : Int} (hdg : decode cc pc = .ok (.tableswitch dflt lo hi offs, len)) (hx : -2147483648 ≤ x ∧ x < 2147483648) (ho : x < lo ∨ hi < x) (ht : (pc : Int) + dflt = (tgt : Int)) (kk : z_V p l e R s m args below meth c D A nL cells slots Q ws tgt lv st) : z_V p l e R s m args below meth c D A nL cells slots Q ws pc lv (.int (z_I x) :: st) :=
  fun H locs ls hP hD hS h => lv_tableOut C.1 C.2.1 hdg (by rw [z_I_toInt hx]; exact ho) ht (kk H locs ls hP hD hS h)
theorem z_tabI (C : z_C p s m args meth c D tys A cc nL own Ts ret) (tgt : Nat) (x0 : Int) {dflt lo hi : Int} {offs : Array Int} {len : Nat} {x off : Int} (hdg : decode cc pc = .ok (.tableswitch dflt lo hi offs, len)) (hx : x = x0) (hb : -2147483648 ≤ x0 ∧ x0 < 2147483648 ∧ lo ≤ x0 ∧ x0 ≤ hi) (ho : offs[(x0 - lo).toNat]? = some off) (ht : (pc : Int) + off = (tgt : Int)) (kk : z_V p l e R s m args below meth c D A nL cells slots Q ws tgt lv st) : z_V p l e R s m args below meth c D A nL cells slots Q ws pc lv (.int (z_I x) :: st) :=
  fun H locs ls hP hD hS h => lv_tableIn C.1 C.2.1 hdg (by rw [hx, z_I_toInt (by omega)]; omega) (by rw [hx, z_I_toInt (by omega)]; omega) (by rw [hx, z_I_toInt (by omega)]; exact ho) ht (kk H locs ls hP hD hS h)
theorem z_alen (C : z_C p s m args meth c D tys A cc nL own Ts ret) (q0 t0 : Nat) {a n : Nat} {cA : ClassId} {f : Int → Int} (ha : ws[q0]? = some (a, z_ai cA n f)) (ht : tys[t0]? = some (cA, .int)) (hdg : decode cc pc = .ok (.arraylength, 1)) (kk : z_V p l e R s m args below meth c D A nL cells slots Q ws (pc + 1) lv (.int (z_I (n : Int)) :: st)) : z_V p l e R s m args below meth c D A nL cells slots Q ws pc lv (.ref a :: st) :=
  fun H locs ls hP hD hS h => va_alen C.1 C.2.1 C.2.2.2.2.2.1 hP q0 t0 ha ht rfl hdg (by rw [show (Int32.ofNat n) = z_I (n : Int) from (Int32.ofInt_eq_ofNat (n := n)).symm]; exact kk H locs ls hP hD hS h)
theorem z_mmax (C : z_C p s m args meth c D tys A cc nL own Ts ret) {index : Nat} {x y : Int} (hlink : Cond.methodLink own index Lib.Math.max.name ∈ Ts) (hstat : Cond.static Lib.Math.max.name ∈ Ts) (hini : Cond.initialized "java/lang/Math" ∈ Ts) (hcode : Cond.code Lib.Math.max.name Lib.Math.max.code 2 (some .int) ∈ Ts) (hR : 1 ≤ R.frames ∧ 21 ≤ R.locals ∧ cells ≤ R.cells ∧ slots ≤ R.slots) (hst : (st.map fun v => v.category).sum ≤ 8) (hx : -2147483648 ≤ x ∧ x < 2147483648) (hy : -2147483648 ≤ y ∧ y < 2147483648) (hdg : decode cc pc = .ok (.invokestatic index, 3)) (kk : z_V p l e R s m args below meth c D A nL cells slots Q ws (pc + 3) lv (.int (z_I (if x < y then y else x)) :: st)) : z_V p l e R s m args below meth c D A nL cells slots Q ws pc lv (.int (z_I y) :: .int (z_I x) :: st) :=
  fun H locs ls hP hD hS h => va_mmax C.1 C.2.1 (by rw [C.2.2.1]; exact h.1.symm) C.2.2.2.1 (C.2.2.2.2.1 _ hlink) (C.2.2.2.2.1 _ hstat) (C.2.2.2.2.1 _ hini) (C.2.2.2.2.1 _ hcode) hR.1 (by omega) hR.2.2.1 hR.2.2.2 hdg (by
    have h1 : ((if z_I x < z_I y then z_I y else z_I x) = z_I (if x < y then y else x)) := by
      by_cases q : x < y
      · rw [if_pos q, if_pos ((z_I_lt hx hy).mpr q)]
      · rw [if_neg q, if_neg (fun z => q ((z_I_lt hx hy).mp z))]
    rw [h1]
    exact kk H locs ls hP hD hS h)
theorem z_mmin (C : z_C p s m args meth c D tys A cc nL own Ts ret) {index : Nat} {x y : Int} (hlink : Cond.methodLink own index Lib.Math.min.name ∈ Ts) (hstat : Cond.static Lib.Math.min.name ∈ Ts) (hini : Cond.initialized "java/lang/Math" ∈ Ts) (hcode : Cond.code Lib.Math.min.name Lib.Math.min.code 2 (some .int) ∈ Ts) (hR : 1 ≤ R.frames ∧ 21 ≤ R.locals ∧ cells ≤ R.cells ∧ slots ≤ R.slots) (hst : (st.map fun v => v.category).sum ≤ 8) (hx : -2147483648 ≤ x ∧ x < 2147483648) (hy : -2147483648 ≤ y ∧ y < 2147483648) (hdg : decode cc pc = .ok (.invokestatic index, 3)) (kk : z_V p l e R s m args below meth c D A nL cells slots Q ws (pc + 3) lv (.int (z_I (if y < x then y else x)) :: st)) : z_V p l e R s m args below meth c D A nL cells slots Q ws pc lv (.int (z_I y) :: .int (z_I x) :: st) :=
  fun H locs ls hP hD hS h => va_mmin C.1 C.2.1 (by rw [C.2.2.1]; exact h.1.symm) C.2.2.2.1 (C.2.2.2.2.1 _ hlink) (C.2.2.2.2.1 _ hstat) (C.2.2.2.2.1 _ hini) (C.2.2.2.2.1 _ hcode) hR.1 (by omega) hR.2.2.1 hR.2.2.2 hdg (by
    have h1 : ((if z_I y < z_I x then z_I y else z_I x) = z_I (if y < x then y else x)) := by
      by_cases q : y < x
      · rw [if_pos q, if_pos ((z_I_lt hy hx).mpr q)]
      · rw [if_neg q, if_neg (fun z => q ((z_I_lt hy hx).mp z))]
    rw [h1]
    exact kk H locs ls hP hD hS h)
theorem z_copy (C : z_C p s m args meth c D tys A cc nL own Ts ret) (q0 q1 t0 : Nat) (ws' : va_W) (ty : FieldType) {index a0 a n0 n1 : Nat} {cA : ClassId} {f g : Int → Int} {sp dp n : Int} (hlink : Cond.methodLink own index arraycopyName ∈ Ts) (hnat : Cond.native arraycopyName ∈ Ts) (hstat : Cond.static arraycopyName ∈ Ts) (hini : Cond.initialized "java/lang/System" ∈ Ts) (ha0 : ws[q0]? = some (a0, z_ai cA n0 f)) (ha1 : ws[q1]? = some (a, z_ai cA n1 g)) (ht : tys[t0]? = some (cA, ty)) (hprim : refKind ty = false) (hb : 0 ≤ sp ∧ 0 ≤ dp ∧ 0 ≤ n ∧ sp + n ≤ (n0 : Int) ∧ dp + n ≤ (n1 : Int) ∧ (n0 : Int) < 2147483648 ∧ (n1 : Int) < 2147483648) (hfit : ∀ i : Int, 0 ≤ i → i < n → fits ty (.int (z_I (f (sp + i)))) = true) (hR : 1 ≤ R.frames ∧ (st.map fun v => v.category).sum + (nativeFrameWords "java/lang/System" "arraycopy" 5 + 11) ≤ R.locals) (hws : ws.set q1 (a, z_ai cA n1 (z_cp f g sp dp n)) = ws') (hdg : decode cc pc = .ok (.invokestatic index, 3)) (kk : z_V p l e R s m args below meth c D A nL cells slots Q ws' (pc + 3) lv st) : z_V p l e R s m args below meth c D A nL cells slots Q ws pc lv (.int (z_I n) :: .int (z_I dp) :: .ref a :: .int (z_I sp) :: .ref a0 :: st) := by
  intro H locs ls hP hD hS h
  have e1 : ∀ x : Int, 0 ≤ x ∧ x < 2147483648 → (z_I x).toNatClampNeg = x.toNat := fun x hx => by
    show (z_I x).toInt.toNat = x.toNat
    rw [z_I_toInt (by omega)]
  have e2 : ∀ x : Int, 0 ≤ x ∧ x < 2147483648 → ¬ z_I x < 0 := fun x hx q => by
    have := (z_I_lt (a := x) (b := 0) (by omega) (by omega)).mp q
    omega
  have e3 : va_cpy (z_F f) (z_F g) (z_I sp).toNatClampNeg (z_I dp).toNatClampNeg (z_I n).toNatClampNeg = z_F (z_cp f g sp dp n) := by
    rw [e1 sp (by omega), e1 dp (by omega), e1 n (by omega)]
    funext k
    unfold va_cpy z_F z_cp
    by_cases q : dp.toNat ≤ k ∧ k < dp.toNat + n.toNat
    · rw [if_pos q, if_pos (by omega)]
      congr 2
      omega
    · rw [if_neg q, if_neg (by omega)]
  refine va_copyi C.1 C.2.1 (by rw [C.2.2.1]; exact h.1.symm) C.2.2.2.1 (C.2.2.2.2.1 _ hlink) (C.2.2.2.2.1 _ hnat) (C.2.2.2.2.1 _ hstat) (C.2.2.2.2.1 _ hini) C.2.2.2.2.2.1 hP hD hS q0 q1 t0 t0 ha0 ha1 ht ht hprim (e2 sp (by omega)) (e2 dp (by omega)) (e2 n (by omega)) (by rw [e1 sp (by omega), e1 n (by omega)]; omega) (by rw [e1 dp (by omega), e1 n (by omega)]; omega) ?_ hR.1 hR.2 hdg ?_
  · intro i hi
    rw [e1 n (by omega)] at hi
    rw [e1 sp (by omega)]
    have := hfit (i : Int) (by omega) (by omega)
    unfold z_F
    rw [show ((sp.toNat + i : Nat) : Int) = sp + (i : Int) by omega]
    exact this
  · intro H1 locs1 hP1 hD1 hS1
    rw [e3] at hP1 hD1
    exact kk H1 locs1 ls (hws ▸ hP1) (hws ▸ hD1) hS1 h
end ZV
end
section
/-! ===== contracts, calls, ends ===== -/
def z_rep : va_W → List Nat → va_W → va_W
  | ws, i :: is, e :: es => z_rep (ws.set i e) is es
  | ws, _, _ => ws
theorem z_rep_at : ∀ (is : List Nat) (es ws : va_W), is.length = es.length → ∀ (k : Nat) (q : Nat × va_E), (z_rep ws is es)[k]? = some q → q ∈ es ∨ (ws[k]? = some q ∧ k ∉ is)
  | [], [], ws, _, k, q, h => Or.inr ⟨h, List.not_mem_nil⟩
  | i :: is, e :: es, ws, hl, k, q, h => by
    have h1 : (z_rep (ws.set i e) is es)[k]? = some q := h
    rcases z_rep_at is es (ws.set i e) (by simpa using hl) k q h1 with h2 | ⟨h2, h3⟩
    · exact Or.inl (List.mem_cons_of_mem _ h2)
    · by_cases hk : k = i
      · subst hk
        left
        rw [List.getElem?_set] at h2
        split at h2
        · split at h2
          · cases h2; exact List.mem_cons_self
          · cases h2
        · rename_i hx; exact absurd rfl hx
      · rw [List.getElem?_set_ne (Ne.symm hk)] at h2
        exact Or.inr ⟨h2, fun hm => (List.mem_cons.mp hm).elim hk h3⟩
theorem z_set_adr {ws : va_W} {i : Nat} {e : Nat × va_E} (h : (ws[i]?).map (·.1) = some e.1) : (ws.set i e).map (·.1) = ws.map (·.1) := by
  apply List.ext_getElem?
  intro k
  rw [List.getElem?_map, List.getElem?_map, List.getElem?_set]
  by_cases hk : i = k
  · subst hk
    rw [if_pos rfl]
    cases hw : ws[i]? with
    | none => rw [hw] at h; cases h
    | some x =>
      have hl := (List.getElem?_eq_some_iff.mp hw).1
      rw [if_pos hl]
      rw [hw] at h
      exact h.symm
  · rw [if_neg hk]
theorem z_rep_adr : ∀ (is : List Nat) (es ws : va_W), is.map (fun i => (ws[i]?).map (·.1)) = es.map (fun e => some e.1) → (z_rep ws is es).map (·.1) = ws.map (·.1)
  | [], [], ws, _ => rfl
  | [], _ :: _, ws, h => by simp at h
  | _ :: _, [], ws, h => by simp at h
  | i :: is, e :: es, ws, h => by
    simp only [List.map_cons, List.cons.injEq] at h
    have hs := z_set_adr h.1
    show (z_rep (ws.set i e) is es).map (·.1) = _
    rw [z_rep_adr is es (ws.set i e) ?_, hs]
    rw [← h.2]
    refine List.map_congr_left (fun j _ => ?_)
    have h2 : ((ws.set i e).map (·.1))[j]? = (ws.map (·.1))[j]? := by rw [hs]
    rw [List.getElem?_map, List.getElem?_map] at h2
    exact h2
theorem z_D_adr {A : Nat → Prop} {ws ws' : va_W} (hD : va_D A ws) (h : ws'.map (·.1) = ws.map (·.1)) : va_D A ws' := by
  have key : ∀ (k : Nat) (q : Nat × va_E), ws'[k]? = some q → ∃ q0, ws[k]? = some q0 ∧ q0.1 = q.1 := by
    intro k q hk
    have h1 : (ws'.map (·.1))[k]? = some q.1 := by rw [List.getElem?_map, hk]; rfl
    rw [h, List.getElem?_map] at h1
    cases hw : ws[k]? with
    | none => rw [hw] at h1; cases h1
    | some x => rw [hw] at h1; exact ⟨x, rfl, Option.some.inj h1⟩
  refine ⟨fun i j p q hi hj hpq => ?_, fun k q hk => ?_⟩
  · obtain ⟨p0, a1, a2⟩ := key i p hi
    obtain ⟨q0, b1, b2⟩ := key j q hj
    exact hD.1 i j p0 q0 a1 b1 (by rw [a2, b2]; exact hpq)
  · obtain ⟨q0, b1, b2⟩ := key k q hk
    rw [← b2]
    exact hD.2 k q0 b1
theorem z_mapat {ws wc : va_W} {isC : List Nat} (hC : isC.map (fun i => ws[i]?) = wc.map some) (k : Nat) (q : Nat × va_E) (hq : wc[k]? = some q) : ∃ i, isC[k]? = some i ∧ ws[i]? = some q := by
  have h1 : (isC.map (fun i => ws[i]?))[k]? = some (some q) := by rw [hC, List.getElem?_map, hq]; rfl
  rw [List.getElem?_map] at h1
  cases hi : isC[k]? with
  | none => rw [hi] at h1; cases h1
  | some i => rw [hi] at h1; exact ⟨i, rfl, Option.some.inj h1⟩
theorem z_frame {A0 : Nat → Prop} {D : va_G} {cl : List vw_C} {ws wc w1 : va_W} {H H1 : Heap} (hP : va_P D cl ws H) (hD : va_D A0 ws) (isC : List Nat) (hC : isC.map (fun i => ws[i]?) = wc.map some) (hadr : wc.map (·.1) = w1.map (·.1))
    (hk : ∀ q : Nat, q < H.size → ¬ va_A wc H.size q → H1[q]? = H[q]?) (hP1 : va_P D cl w1 H1) : va_P D cl (z_rep ws isC w1) H1 ∧ va_D A0 (z_rep ws isC w1) := by
  have hl : isC.length = w1.length := by
    have h1 := congrArg List.length hC
    have h2 := congrArg List.length hadr
    simp at h1 h2
    omega
  refine ⟨fun k q hq => ?_, z_D_adr hD (z_rep_adr isC w1 ws ?_)⟩
  · rcases z_rep_at isC w1 ws hl k q hq with h | ⟨h, hni⟩
    · obtain ⟨j, hj⟩ := List.getElem?_of_mem h
      exact hP1 j q hj
    · have hlt := (hP k q h).lt
      refine (hP k q h).kept (hk q.1 hlt (fun ha => ?_))
      rcases ha with ⟨k2, e, h2⟩ | h2
      · obtain ⟨i, h3, h4⟩ := z_mapat hC k2 (q.1, e) h2
        have := hD.1 k i q (q.1, e) h h4 rfl
        subst this
        exact hni (List.mem_of_getElem? h3)
      · omega
  · have h1 : isC.map (fun i => (ws[i]?).map (·.1)) = (isC.map (fun i => ws[i]?)).map (fun o => o.map (·.1)) := by rw [List.map_map]; rfl
    rw [h1, hC, List.map_map]
    have h2 : w1.map (fun e => some e.1) = (w1.map (·.1)).map some := by rw [List.map_map]; rfl
    rw [h2, ← hadr, List.map_map]
    rfl
def z_PRE (D : va_G) (tys : List (ClassId × FieldType)) (wc : va_W) (sz : Nat) : State → Prop := fun U => U.heap.size = sz ∧ va_P D vwCl wc U.heap ∧ va_K D vwCl tys U ∧ va_D (fun _ => True) wc
def z_B (D : va_G) (tys : List (ClassId × FieldType)) (A : Nat → Prop) (w1 : va_W) : State → Prop := fun t => va_P D vwCl w1 t.heap ∧ va_K D vwCl tys t ∧ va_D A w1
/-- a contract: from the cells wc to the cells w1, the answer F (void: z_Mv); fr, lo: the room of its callees -/
def z_Mi (l : Launch) (y : MethodName) (wsy : List Cond) (fr lo : Nat) (D : va_G) (tys : List (ClassId × FieldType)) (As : List Value) (wc w1 : va_W) (F : Int) : Prop :=
  ∀ sz : Nat, Met l y wsy { frames := fr, cells := 0, slots := 0, locals := lo } (va_Pc As (z_PRE D tys wc sz)) (va_Qi (S := Unit) (fun r _ => r = z_I F) (fun _ => z_B D tys (va_A wc sz) w1) (va_A wc sz)) 0 0 (va_A wc sz)
def z_Mv (l : Launch) (y : MethodName) (wsy : List Cond) (fr lo : Nat) (D : va_G) (tys : List (ClassId × FieldType)) (As : List Value) (wc w1 : va_W) : Prop :=
  ∀ sz : Nat, Met l y wsy { frames := fr, cells := 0, slots := 0, locals := lo } (va_Pc As (z_PRE D tys wc sz)) (va_Qv (S := Unit) (fun _ => True) (fun _ => z_B D tys (va_A wc sz) w1) (va_A wc sz)) 0 0 (va_A wc sz)
def z_Qi (D : va_G) (tys : List (ClassId × FieldType)) (A : Nat → Prop) (args : Array Value) (s : State) (below : List Frame) (w1 : va_W) (F : Int) : State → Prop := MQ below (va_Qi (S := Unit) (fun r _ => r = z_I F) (fun _ => z_B D tys A w1) A) args s 0 0 A
def z_Qv (D : va_G) (tys : List (ClassId × FieldType)) (A : Nat → Prop) (args : Array Value) (s : State) (below : List Frame) (w1 : va_W) : State → Prop := MQ below (va_Qv (S := Unit) (fun _ => True) (fun _ => z_B D tys A w1) A) args s 0 0 A
theorem z_Mi_of {l : Launch} {y : MethodName} {wsy wsy' : List Cond} {cc : ByteArray} {nL fr lo : Nat} {ret : Option FieldType} {D : va_G} {tys : List (ClassId × FieldType)} {As : List Value} {wc w1 : va_W} {F : Int} (hy : plainName y.cls = true) (hw : wsy = Cond.code y cc nL ret :: wsy') (hnL : (lg_sl As).length ≤ nL)
    (body : ∀ (p : Program) (e : Env) (s : State) (m : MethodId) (args : Array Value) (below : List Frame) (meth : Method) (c : Code) (A : Nat → Prop) (Q : State → Prop), z_C p s m args meth c D tys A cc nL y.cls wsy ret → Q = z_Qi D tys A args s below w1 F → z_V p l e { frames := fr, cells := 0, slots := 0, locals := lo } s m args below meth c D A nL 0 0 Q wc 0 (lv_args 0 As) []) : z_Mi l y wsy fr lo D tys As wc w1 F := by
  intro sz
  refine Met.ofW hy hw ?_
  intro p e s m args below meth c s₁ B hml hv
  obtain ⟨rfl, hsz, hP, hK, hD0⟩ := hv
  subst hsz
  have hts := atoms_spec (ws := wsy) B.pre
  have hl := lv_entry As (n := nL) hnL
  rw [lg_entry_eq]
  exact body p e s m _ below meth c (va_A wc s.heap.size) _ ⟨B.exec, B.bytes, hml, findClass_of_methodNamed B.named, hts, hK, B.returns, B.notSynchronized, fun q h => Or.inr h⟩ rfl s.heap [] _ hP hD0.self va_S.rf hl
theorem z_Mv_of {l : Launch} {y : MethodName} {wsy wsy' : List Cond} {cc : ByteArray} {nL fr lo : Nat} {ret : Option FieldType} {D : va_G} {tys : List (ClassId × FieldType)} {As : List Value} {wc w1 : va_W} (hy : plainName y.cls = true) (hw : wsy = Cond.code y cc nL ret :: wsy') (hnL : (lg_sl As).length ≤ nL)
    (body : ∀ (p : Program) (e : Env) (s : State) (m : MethodId) (args : Array Value) (below : List Frame) (meth : Method) (c : Code) (A : Nat → Prop) (Q : State → Prop), z_C p s m args meth c D tys A cc nL y.cls wsy ret → Q = z_Qv D tys A args s below w1 → z_V p l e { frames := fr, cells := 0, slots := 0, locals := lo } s m args below meth c D A nL 0 0 Q wc 0 (lv_args 0 As) []) : z_Mv l y wsy fr lo D tys As wc w1 := by
  intro sz
  refine Met.ofW hy hw ?_
  intro p e s m args below meth c s₁ B hml hv
  obtain ⟨rfl, hsz, hP, hK, hD0⟩ := hv
  subst hsz
  have hts := atoms_spec (ws := wsy) B.pre
  have hl := lv_entry As (n := nL) hnL
  rw [lg_entry_eq]
  exact body p e s m _ below meth c (va_A wc s.heap.size) _ ⟨B.exec, B.bytes, hml, findClass_of_methodNamed B.named, hts, hK, B.returns, B.notSynchronized, fun q h => Or.inr h⟩ rfl s.heap [] _ hP hD0.self va_S.rf hl
section ZC
variable {p : Program} {l : Launch} {e : Env} {R : Room} {s : State} {m : MethodId} {args : Array Value} {below : List Frame} {meth : Method} {c : Code} {D : va_G} {tys : List (ClassId × FieldType)} {A : Nat → Prop} {cc : ByteArray} {nL cells slots : Nat} {own : String} {Ts : List Cond} {ret : Option FieldType} {Q : State → Prop} {ws : va_W} {pc : Nat} {lv : List (Nat × Value)} {st : List Value}
theorem z_iret (C : z_C p s m args meth c D tys A cc nL own Ts (some .int)) {w1 : va_W} {F r : Int} (hQ : Q = z_Qi D tys A args s below w1 F) (hws : ws = w1) (hF : r = F) (hdg : decode cc pc = .ok (.ireturn, 1)) : z_V p l e R s m args below meth c D A nL 0 0 Q ws pc lv [.int (z_I r)] := by
  intro H locs ls hP hD hS h
  subst hQ; subst hws; subst hF
  have hlocks := C.2.2.2.2.2.2.2.1
  exact W.iret C.1 C.2.1 C.2.2.2.2.2.2.1 (fun t ht hW => ⟨⟨_, (), rfl, rfl, by rw [ht]; exact hP, va_K.moved hW.alike C.2.2.2.2.2.1, hD⟩, hS.F ht⟩) hS.2.2 hdg hlocks
theorem z_zret (C : z_C p s m args meth c D tys A cc nL own Ts (some .boolean)) {w1 : va_W} {F r : Int} (hQ : Q = z_Qi D tys A args s below w1 F) (hws : ws = w1) (hF : r = F) (hr : r = 0 ∨ r = 1) (hdg : decode cc pc = .ok (.ireturn, 1)) : z_V p l e R s m args below meth c D A nL 0 0 Q ws pc lv [.int (z_I r)] := by
  intro H locs ls hP hD hS h
  subst hQ; subst hws; subst hF
  have hlocks := C.2.2.2.2.2.2.2.1
  have hn : narrow .boolean (.int (z_I r)) = .int (z_I r) := by rcases hr with rfl | rfl <;> decide
  exact W.zret C.1 C.2.1 C.2.2.2.2.2.2.1 hn (fun t ht hW => ⟨⟨_, (), rfl, rfl, by rw [ht]; exact hP, va_K.moved hW.alike C.2.2.2.2.2.1, hD⟩, hS.F ht⟩) hS.2.2 hdg hlocks
theorem z_vret (C : z_C p s m args meth c D tys A cc nL own Ts none) {w1 : va_W} (hQ : Q = z_Qv D tys A args s below w1) (hws : ws = w1) (hdg : decode cc pc = .ok (.return_, 1)) : z_V p l e R s m args below meth c D A nL 0 0 Q ws pc lv [] := by
  intro H locs ls hP hD hS h
  subst hQ; subst hws
  have hlocks := C.2.2.2.2.2.2.2.1
  exact W.vret C.1 C.2.1 C.2.2.2.2.2.2.1 (fun t ht hW => ⟨⟨(), rfl, trivial, by rw [ht]; exact hP, va_K.moved hW.alike C.2.2.2.2.2.1, hD⟩, hS.F ht⟩) hS.2.2 hdg hlocks
theorem z_blind {As : List Value} {wc : va_W} {sz : Nat} : FrameBlind (va_Pc As (z_PRE D tys wc sz)) := fun a U g mk q => by
  obtain ⟨q0, q1, qP, qK, qD⟩ := q
  exact ⟨q0, q1, qP, va_K.moved (u := U) (U := U.calling g mk a) (Vm.Alike.refl U.vm) qK, qD⟩
theorem z_freeA {wc : va_W} {isC : List Nat} {H : Heap} {locs : List Loc} (C : z_C p s m args meth c D tys A cc nL own Ts ret) (hD : va_D A ws) (hS : va_S A s.heap H locs) (hC : isC.map (fun i => ws[i]?) = wc.map some) : ∀ q, va_A wc H.size q → A q := va_free hD hS C.2.2.2.2.2.2.2.2 isC hC
theorem z_callVi (C : z_C p s m args meth c D tys A cc nL own Ts ret) (isC : List Nat) (ws' : va_W) (As rest : List Value) {y : MethodName} {bytes : ByteArray} {maxL fr lo index n : Nat} {ret' : Option FieldType} {wsy wsy' : List Cond} {wc w1 : va_W} {F : Int} {b ci N : Nat} {T : u_T} {fs : List Value} (hM : z_Mi l y wsy fr lo D tys (.ref b :: As) wc w1 F) (hG : GoodIn Ts (wsV own index y.cls y wsy)) (hw : wsy = Cond.code y bytes maxL ret' :: wsy') (hd : y.cls ≠ "java/lang/invoke/MethodHandle" ∧ y.cls ≠ "java/lang/invoke/VarHandle" ∧ (parseMethodDescriptor y.desc).map (fun d => d.parameters.length) = some n) (hn : As.length = n) (hR : fr + 1 ≤ R.frames ∧ 8 + (maxL + 11) + lo ≤ R.locals) (hrecv : wc[0]? = some (b, .inr (ci, fs))) (hcl : vwCl[ci]? = some (y.cls, T, N)) (hC : isC.map (fun i => ws[i]?) = wc.map some) (hnd : va_nd isC = true) (hadr : wc.map (·.1) = w1.map (·.1)) (hws : z_rep ws isC w1 = ws') (hst : st = As.reverse ++ .ref b :: rest) (hrest : (rest.map fun v => v.category).sum ≤ 8) (hcs : cells ≤ R.cells ∧ slots ≤ R.slots) (hdg : decode cc pc = .ok (.invokevirtual index, 3)) (kk : z_V p l e R s m args below meth c D A nL cells slots Q ws' (pc + 3) lv (.int (z_I F) :: rest)) : z_V p l e R s m args below meth c D A nL cells slots Q ws pc lv st := by
  intro H locs ls hP hD hS h
  have hPc : va_P D vwCl wc H := fun k q hq => by
    obtain ⟨i, -, h2⟩ := z_mapat hC k q hq
    exact hP i q h2
  have hDc := hD.sub isC hnd hC
  have hFc := z_freeA C hD hS hC
  refine va_calli (va_runV (rest := rest) ⟨C.1, C.2.1, C.2.2.1, C.2.2.2.1, C.2.2.2.2.1⟩ (hM H.size) (cwV n C.2.2.2.2.1 hG hw rfl rfl ⟨rfl, hd⟩ hR) ⟨z_blind, va_recv C.2.2.2.2.2.1 hPc hcl hrecv, fun U hU hW => ⟨rfl, by rw [hU], by rw [hU]; exact hPc, va_K.moved hW.alike C.2.2.2.2.2.1, hDc.weaken (fun _ _ _ _ => trivial)⟩⟩ rfl hn h.1 hst (lv_room hrest) hdg hcs) hS (fun q _ h => hFc q h) hFc (fun r u t H1 locs1 ht hvm hr hB hz1 hk1 hS1 => ?_)
  subst hr
  obtain ⟨hP1, hK1, hD1⟩ := hB
  rw [ht] at hP1
  obtain ⟨hP2, hD2⟩ := z_frame hP hD isC hC hadr hk1 hP1
  exact kk H1 locs1 ls (hws ▸ hP2) (hws ▸ hD2) hS1 h
theorem z_callVv (C : z_C p s m args meth c D tys A cc nL own Ts ret) (isC : List Nat) (ws' : va_W) (As rest : List Value) {y : MethodName} {bytes : ByteArray} {maxL fr lo index n : Nat} {ret' : Option FieldType} {wsy wsy' : List Cond} {wc w1 : va_W} {b ci N : Nat} {T : u_T} {fs : List Value} (hM : z_Mv l y wsy fr lo D tys (.ref b :: As) wc w1) (hG : GoodIn Ts (wsV own index y.cls y wsy)) (hw : wsy = Cond.code y bytes maxL ret' :: wsy') (hd : y.cls ≠ "java/lang/invoke/MethodHandle" ∧ y.cls ≠ "java/lang/invoke/VarHandle" ∧ (parseMethodDescriptor y.desc).map (fun d => d.parameters.length) = some n) (hn : As.length = n) (hR : fr + 1 ≤ R.frames ∧ 8 + (maxL + 11) + lo ≤ R.locals) (hrecv : wc[0]? = some (b, .inr (ci, fs))) (hcl : vwCl[ci]? = some (y.cls, T, N)) (hC : isC.map (fun i => ws[i]?) = wc.map some) (hnd : va_nd isC = true) (hadr : wc.map (·.1) = w1.map (·.1)) (hws : z_rep ws isC w1 = ws') (hst : st = As.reverse ++ .ref b :: rest) (hrest : (rest.map fun v => v.category).sum ≤ 8) (hcs : cells ≤ R.cells ∧ slots ≤ R.slots) (hdg : decode cc pc = .ok (.invokevirtual index, 3)) (kk : z_V p l e R s m args below meth c D A nL cells slots Q ws' (pc + 3) lv rest) : z_V p l e R s m args below meth c D A nL cells slots Q ws pc lv st := by
  intro H locs ls hP hD hS h
  have hPc : va_P D vwCl wc H := fun k q hq => by
    obtain ⟨i, -, h2⟩ := z_mapat hC k q hq
    exact hP i q h2
  have hDc := hD.sub isC hnd hC
  have hFc := z_freeA C hD hS hC
  refine va_callv (va_runV (rest := rest) ⟨C.1, C.2.1, C.2.2.1, C.2.2.2.1, C.2.2.2.2.1⟩ (hM H.size) (cwV n C.2.2.2.2.1 hG hw rfl rfl ⟨rfl, hd⟩ hR) ⟨z_blind, va_recv C.2.2.2.2.2.1 hPc hcl hrecv, fun U hU hW => ⟨rfl, by rw [hU], by rw [hU]; exact hPc, va_K.moved hW.alike C.2.2.2.2.2.1, hDc.weaken (fun _ _ _ _ => trivial)⟩⟩ rfl hn h.1 hst (lv_room hrest) hdg hcs) hS (fun q _ h => hFc q h) hFc (fun u t H1 locs1 ht hvm hr hB hz1 hk1 hS1 => ?_)
  obtain ⟨hP1, hK1, hD1⟩ := hB
  rw [ht] at hP1
  obtain ⟨hP2, hD2⟩ := z_frame hP hD isC hC hadr hk1 hP1
  exact kk H1 locs1 ls (hws ▸ hP2) (hws ▸ hD2) hS1 h
theorem z_callSi (C : z_C p s m args meth c D tys A cc nL own Ts ret) (isC : List Nat) (ws' : va_W) (As rest : List Value) {y : MethodName} {bytes : ByteArray} {maxL fr lo index n : Nat} {ret' : Option FieldType} {wsy wsy' : List Cond} {wc w1 : va_W} {F : Int}  (hM : z_Mi l y wsy fr lo D tys As wc w1 F) (hG : GoodIn Ts (va_wsS own index y wsy)) (hw : wsy = Cond.code y bytes maxL ret' :: wsy') (hd : y.cls ≠ "java/lang/invoke/MethodHandle" ∧ y.cls ≠ "java/lang/invoke/VarHandle" ∧ (parseMethodDescriptor y.desc).map (fun d => d.parameters.length) = some n) (hn : As.length = n) (hR : fr + 1 ≤ R.frames ∧ 8 + (maxL + 11) + lo ≤ R.locals) (hC : isC.map (fun i => ws[i]?) = wc.map some) (hnd : va_nd isC = true) (hadr : wc.map (·.1) = w1.map (·.1)) (hws : z_rep ws isC w1 = ws') (hst : st = As.reverse ++ rest) (hrest : (rest.map fun v => v.category).sum ≤ 8) (hcs : cells ≤ R.cells ∧ slots ≤ R.slots) (hdg : decode cc pc = .ok (.invokestatic index, 3)) (kk : z_V p l e R s m args below meth c D A nL cells slots Q ws' (pc + 3) lv (.int (z_I F) :: rest)) : z_V p l e R s m args below meth c D A nL cells slots Q ws pc lv st := by
  intro H locs ls hP hD hS h
  have hPc : va_P D vwCl wc H := fun k q hq => by
    obtain ⟨i, -, h2⟩ := z_mapat hC k q hq
    exact hP i q h2
  have hDc := hD.sub isC hnd hC
  have hFc := z_freeA C hD hS hC
  refine va_calli (va_runS (rest := rest) ⟨C.1, C.2.1, C.2.2.1, C.2.2.2.1, C.2.2.2.2.1⟩ (hM H.size) (va_cwS n C.2.2.2.2.1 hG hw rfl rfl hd hR) ⟨z_blind, fun U hU hW => ⟨rfl, by rw [hU], by rw [hU]; exact hPc, va_K.moved hW.alike C.2.2.2.2.2.1, hDc.weaken (fun _ _ _ _ => trivial)⟩⟩ rfl hn h.1 hst (lv_room hrest) hdg hcs) hS (fun q _ h => hFc q h) hFc (fun r u t H1 locs1 ht hvm hr hB hz1 hk1 hS1 => ?_)
  subst hr
  obtain ⟨hP1, hK1, hD1⟩ := hB
  rw [ht] at hP1
  obtain ⟨hP2, hD2⟩ := z_frame hP hD isC hC hadr hk1 hP1
  exact kk H1 locs1 ls (hws ▸ hP2) (hws ▸ hD2) hS1 h
theorem z_callSv (C : z_C p s m args meth c D tys A cc nL own Ts ret) (isC : List Nat) (ws' : va_W) (As rest : List Value) {y : MethodName} {bytes : ByteArray} {maxL fr lo index n : Nat} {ret' : Option FieldType} {wsy wsy' : List Cond} {wc w1 : va_W}  (hM : z_Mv l y wsy fr lo D tys As wc w1) (hG : GoodIn Ts (va_wsS own index y wsy)) (hw : wsy = Cond.code y bytes maxL ret' :: wsy') (hd : y.cls ≠ "java/lang/invoke/MethodHandle" ∧ y.cls ≠ "java/lang/invoke/VarHandle" ∧ (parseMethodDescriptor y.desc).map (fun d => d.parameters.length) = some n) (hn : As.length = n) (hR : fr + 1 ≤ R.frames ∧ 8 + (maxL + 11) + lo ≤ R.locals) (hC : isC.map (fun i => ws[i]?) = wc.map some) (hnd : va_nd isC = true) (hadr : wc.map (·.1) = w1.map (·.1)) (hws : z_rep ws isC w1 = ws') (hst : st = As.reverse ++ rest) (hrest : (rest.map fun v => v.category).sum ≤ 8) (hcs : cells ≤ R.cells ∧ slots ≤ R.slots) (hdg : decode cc pc = .ok (.invokestatic index, 3)) (kk : z_V p l e R s m args below meth c D A nL cells slots Q ws' (pc + 3) lv rest) : z_V p l e R s m args below meth c D A nL cells slots Q ws pc lv st := by
  intro H locs ls hP hD hS h
  have hPc : va_P D vwCl wc H := fun k q hq => by
    obtain ⟨i, -, h2⟩ := z_mapat hC k q hq
    exact hP i q h2
  have hDc := hD.sub isC hnd hC
  have hFc := z_freeA C hD hS hC
  refine va_callv (va_runS (rest := rest) ⟨C.1, C.2.1, C.2.2.1, C.2.2.2.1, C.2.2.2.2.1⟩ (hM H.size) (va_cwS n C.2.2.2.2.1 hG hw rfl rfl hd hR) ⟨z_blind, fun U hU hW => ⟨rfl, by rw [hU], by rw [hU]; exact hPc, va_K.moved hW.alike C.2.2.2.2.2.1, hDc.weaken (fun _ _ _ _ => trivial)⟩⟩ rfl hn h.1 hst (lv_room hrest) hdg hcs) hS (fun q _ h => hFc q h) hFc (fun u t H1 locs1 ht hvm hr hB hz1 hk1 hS1 => ?_)
  obtain ⟨hP1, hK1, hD1⟩ := hB
  rw [ht] at hP1
  obtain ⟨hP2, hD2⟩ := z_frame hP hD isC hC hadr hk1 hP1
  exact kk H1 locs1 ls (hws ▸ hP2) (hws ▸ hD2) hS1 h
end ZC
abbrev z_T (cI cZ cO : ClassId) : List (ClassId × FieldType) := [(cI, .int), (cZ, .boolean), (cO, .object "RippleCounts$Counter")]
section ZW
variable {p : Program} {l : Launch} {e : Env} {R : Room} {s : State} {m : MethodId} {args : Array Value} {below : List Frame} {meth : Method} {c : Code} {D : va_G} {A : Nat → Prop} {nL cells slots : Nat} {Q : State → Prop} {ws : va_W} {pc : Nat} {lv : List (Nat × Value)} {st : List Value}
theorem z_ws (ws' : va_W) (h : ws = ws') (kk : z_V p l e R s m args below meth c D A nL cells slots Q ws' pc lv st) : z_V p l e R s m args below meth c D A nL cells slots Q ws pc lv st := h ▸ kk
theorem z_lsub (lv' : List (Nat × Value)) (ks : List Nat) (h : lv_pick lv ks = lv') (kk : z_V p l e R s m args below meth c D A nL cells slots Q ws pc lv' st) : z_V p l e R s m args below meth c D A nL cells slots Q ws pc lv st := fun H locs ls hP hD hS hl => kk H locs ls hP hD hS (lv_sub hl ks h)
theorem z_lveq (lv' : List (Nat × Value)) (h : lv = lv') (kk : z_V p l e R s m args below meth c D A nL cells slots Q ws pc lv' st) : z_V p l e R s m args below meth c D A nL cells slots Q ws pc lv st := h ▸ kk
theorem z_steq (st' : List Value) (h : st = st') (kk : z_V p l e R s m args below meth c D A nL cells slots Q ws pc lv st') : z_V p l e R s m args below meth c D A nL cells slots Q ws pc lv st := h ▸ kk
end ZW
theorem z_off1 {x d : Int} {a0 o0 : Int} (h0 : ¬ x = a0) : Op.lookupswitch.offset (#[(a0, o0)] : Array (Int × Int)).toList d x = d := by
  show Op.lookupswitch.offset [(a0, o0)] d x = d
  rw [Op.lookupswitch.offset_cons, if_neg (fun q => h0 q.symm)]
  rfl
theorem z_off2 {x d : Int} {a0 o0 : Int} {a1 o1 : Int} (h0 : ¬ x = a0) (h1 : ¬ x = a1) : Op.lookupswitch.offset (#[(a0, o0), (a1, o1)] : Array (Int × Int)).toList d x = d := by
  show Op.lookupswitch.offset [(a0, o0), (a1, o1)] d x = d
  rw [Op.lookupswitch.offset_cons, if_neg (fun q => h0 q.symm), Op.lookupswitch.offset_cons, if_neg (fun q => h1 q.symm)]
  rfl
theorem z_off3 {x d : Int} {a0 o0 : Int} {a1 o1 : Int} {a2 o2 : Int} (h0 : ¬ x = a0) (h1 : ¬ x = a1) (h2 : ¬ x = a2) : Op.lookupswitch.offset (#[(a0, o0), (a1, o1), (a2, o2)] : Array (Int × Int)).toList d x = d := by
  show Op.lookupswitch.offset [(a0, o0), (a1, o1), (a2, o2)] d x = d
  rw [Op.lookupswitch.offset_cons, if_neg (fun q => h0 q.symm), Op.lookupswitch.offset_cons, if_neg (fun q => h1 q.symm), Op.lookupswitch.offset_cons, if_neg (fun q => h2 q.symm)]
  rfl
theorem z_off4 {x d : Int} {a0 o0 : Int} {a1 o1 : Int} {a2 o2 : Int} {a3 o3 : Int} (h0 : ¬ x = a0) (h1 : ¬ x = a1) (h2 : ¬ x = a2) (h3 : ¬ x = a3) : Op.lookupswitch.offset (#[(a0, o0), (a1, o1), (a2, o2), (a3, o3)] : Array (Int × Int)).toList d x = d := by
  show Op.lookupswitch.offset [(a0, o0), (a1, o1), (a2, o2), (a3, o3)] d x = d
  rw [Op.lookupswitch.offset_cons, if_neg (fun q => h0 q.symm), Op.lookupswitch.offset_cons, if_neg (fun q => h1 q.symm), Op.lookupswitch.offset_cons, if_neg (fun q => h2 q.symm), Op.lookupswitch.offset_cons, if_neg (fun q => h3 q.symm)]
  rfl
theorem z_off5 {x d : Int} {a0 o0 : Int} {a1 o1 : Int} {a2 o2 : Int} {a3 o3 : Int} {a4 o4 : Int} (h0 : ¬ x = a0) (h1 : ¬ x = a1) (h2 : ¬ x = a2) (h3 : ¬ x = a3) (h4 : ¬ x = a4) : Op.lookupswitch.offset (#[(a0, o0), (a1, o1), (a2, o2), (a3, o3), (a4, o4)] : Array (Int × Int)).toList d x = d := by
  show Op.lookupswitch.offset [(a0, o0), (a1, o1), (a2, o2), (a3, o3), (a4, o4)] d x = d
  rw [Op.lookupswitch.offset_cons, if_neg (fun q => h0 q.symm), Op.lookupswitch.offset_cons, if_neg (fun q => h1 q.symm), Op.lookupswitch.offset_cons, if_neg (fun q => h2 q.symm), Op.lookupswitch.offset_cons, if_neg (fun q => h3 q.symm), Op.lookupswitch.offset_cons, if_neg (fun q => h4 q.symm)]
  rfl
theorem z_off6 {x d : Int} {a0 o0 : Int} {a1 o1 : Int} {a2 o2 : Int} {a3 o3 : Int} {a4 o4 : Int} {a5 o5 : Int} (h0 : ¬ x = a0) (h1 : ¬ x = a1) (h2 : ¬ x = a2) (h3 : ¬ x = a3) (h4 : ¬ x = a4) (h5 : ¬ x = a5) : Op.lookupswitch.offset (#[(a0, o0), (a1, o1), (a2, o2), (a3, o3), (a4, o4), (a5, o5)] : Array (Int × Int)).toList d x = d := by
  show Op.lookupswitch.offset [(a0, o0), (a1, o1), (a2, o2), (a3, o3), (a4, o4), (a5, o5)] d x = d
  rw [Op.lookupswitch.offset_cons, if_neg (fun q => h0 q.symm), Op.lookupswitch.offset_cons, if_neg (fun q => h1 q.symm), Op.lookupswitch.offset_cons, if_neg (fun q => h2 q.symm), Op.lookupswitch.offset_cons, if_neg (fun q => h3 q.symm), Op.lookupswitch.offset_cons, if_neg (fun q => h4 q.symm), Op.lookupswitch.offset_cons, if_neg (fun q => h5 q.symm)]
  rfl
end
section
/-! ===== words of the specification: powers, bits, iterations, sums ===== -/
def z_p2 (k : Int) : Int := 2 ^ k.toNat
def z_bit (x k : Int) : Int := x / z_p2 k % 2
def z_xr (a b : Int) : Int := ((a.toNat ^^^ b.toNat : Nat) : Int)
def z_it {α : Type} (f : Int → α → α) (a : α) : Nat → α
  | 0 => a
  | n + 1 => f (n : Int) (z_it f a n)
theorem z_it_next {α : Type} (f : Int → α → α) (a : α) {k : Int} (h : 0 ≤ k) : z_it f a (k + 1).toNat = f k (z_it f a k.toNat) := by
  obtain ⟨n, rfl⟩ := Int.eq_ofNat_of_zero_le h
  rfl
theorem z_it_zero {α : Type} (f : Int → α → α) (a : α) : z_it f a (0 : Int).toNat = a := rfl
def z_fst (f : Int → Int) (j : Int) : Nat → Int
  | 0 => -6
  | n + 1 => if 0 < f j then j else z_fst f (j + 1) n
/-- from j on, n places: where the first positive one is -/
theorem z_fst_pos {f : Int → Int} {j : Int} {n : Nat} (hn : 0 < n) (h : 0 < f j) : z_fst f j n = j := by
  obtain ⟨m, rfl⟩ := Nat.exists_eq_succ_of_ne_zero (by omega : n ≠ 0)
  simp [z_fst, h]
theorem z_fst_neg {f : Int → Int} {j : Int} {n m : Nat} (hn : n = m + 1) (h : ¬ 0 < f j) : z_fst f j n = z_fst f (j + 1) m := by
  subst hn
  simp [z_fst, h]
theorem z_dshr : ∀ x : Nat, x < 64 → ∀ k : Nat, k < 6 → Int32.ofInt (x : Int) >>> (Int32.ofInt (k : Int) &&& 31) = Int32.ofInt ((x / 2 ^ k : Nat) : Int) := by decide +kernel
theorem z_p2_nat (k : Nat) : z_p2 (k : Int) = ((2 ^ k : Nat) : Int) := by simp [z_p2]
theorem z_shr {x k : Int} (hx : 0 ≤ x ∧ x < 64) (hk : 0 ≤ k ∧ k < 6) : z_I x >>> (z_I k &&& 31) = z_I (x / z_p2 k) := by
  obtain ⟨a, rfl⟩ := Int.eq_ofNat_of_zero_le hx.1
  obtain ⟨b, rfl⟩ := Int.eq_ofNat_of_zero_le hk.1
  rw [z_p2_nat]
  exact z_dshr a (by omega) b (by omega)
theorem z_dshl : ∀ k : Nat, k < 32 → Int32.ofInt 1 <<< (Int32.ofInt (k : Int) &&& 31) = Int32.ofInt ((2 ^ k : Nat) : Int) := by decide +kernel
theorem z_shl1 {k : Int} (hk : 0 ≤ k ∧ k < 32) : z_I 1 <<< (z_I k &&& 31) = z_I (z_p2 k) := by
  obtain ⟨b, rfl⟩ := Int.eq_ofNat_of_zero_le hk.1
  rw [z_p2_nat]
  exact z_dshl b (by omega)
theorem z_dshb : ∀ c : Nat, c < 2 → ∀ k : Nat, k < 5 → Int32.ofInt (c : Int) <<< (Int32.ofInt (k : Int) &&& 31) = Int32.ofInt ((c * 2 ^ k : Nat) : Int) := by decide +kernel
theorem z_shlb {c k : Int} (hc : 0 ≤ c ∧ c < 2) (hk : 0 ≤ k ∧ k < 5) : z_I c <<< (z_I k &&& 31) = z_I (c * z_p2 k) := by
  obtain ⟨a, rfl⟩ := Int.eq_ofNat_of_zero_le hc.1
  obtain ⟨b, rfl⟩ := Int.eq_ofNat_of_zero_le hk.1
  rw [z_p2_nat, show ((a : Int) * ((2 ^ b : Nat) : Int)) = ((a * 2 ^ b : Nat) : Int) by push_cast; rfl]
  exact z_dshb a (by omega) b (by omega)
theorem z_dxor : ∀ k : Nat, k < 5 → Int32.ofInt ((2 ^ k : Nat) : Int) ^^^ Int32.ofInt (-1) = Int32.ofInt (-1 - ((2 ^ k : Nat) : Int)) := by decide +kernel
theorem z_xorm {k : Int} (hk : 0 ≤ k ∧ k < 5) : z_I (z_p2 k) ^^^ z_I (-1) = z_I (-1 - z_p2 k) := by
  obtain ⟨b, rfl⟩ := Int.eq_ofNat_of_zero_le hk.1
  rw [z_p2_nat]
  exact z_dxor b (by omega)
theorem z_dand : ∀ x : Nat, x < 32 → ∀ k : Nat, k < 5 → Int32.ofInt (x : Int) &&& Int32.ofInt (-1 - ((2 ^ k : Nat) : Int)) = Int32.ofInt ((x : Int) - ((x : Int) / ((2 ^ k : Nat) : Int)) % 2 * ((2 ^ k : Nat) : Int)) := by decide +kernel
theorem z_andm {x k : Int} (hx : 0 ≤ x ∧ x < 32) (hk : 0 ≤ k ∧ k < 5) : z_I x &&& z_I (-1 - z_p2 k) = z_I (x - z_bit x k * z_p2 k) := by
  obtain ⟨a, rfl⟩ := Int.eq_ofNat_of_zero_le hx.1
  obtain ⟨b, rfl⟩ := Int.eq_ofNat_of_zero_le hk.1
  unfold z_bit
  rw [z_p2_nat]
  exact z_dand a (by omega) b (by omega)
theorem z_dor : ∀ x : Nat, x < 32 → ∀ k : Nat, k < 5 → ∀ c : Nat, c < 2 → Int32.ofInt ((x : Int) - ((x : Int) / ((2 ^ k : Nat) : Int)) % 2 * ((2 ^ k : Nat) : Int)) ||| Int32.ofInt ((c : Int) * ((2 ^ k : Nat) : Int)) = Int32.ofInt ((x : Int) - ((x : Int) / ((2 ^ k : Nat) : Int)) % 2 * ((2 ^ k : Nat) : Int) + (c : Int) * ((2 ^ k : Nat) : Int)) := by decide +kernel
theorem z_orb {x k c : Int} (hx : 0 ≤ x ∧ x < 32) (hk : 0 ≤ k ∧ k < 5) (hc : 0 ≤ c ∧ c < 2) : z_I (x - z_bit x k * z_p2 k) ||| z_I (c * z_p2 k) = z_I (x - z_bit x k * z_p2 k + c * z_p2 k) := by
  obtain ⟨a, rfl⟩ := Int.eq_ofNat_of_zero_le hx.1
  obtain ⟨b, rfl⟩ := Int.eq_ofNat_of_zero_le hk.1
  obtain ⟨d, rfl⟩ := Int.eq_ofNat_of_zero_le hc.1
  unfold z_bit
  rw [z_p2_nat]
  exact z_dor a (by omega) b (by omega) d (by omega)
theorem z_dsh : ∀ x : Nat, x < 32 → ∀ k : Nat, k < 5 → ∀ c : Nat, c < 2 → 0 ≤ (x : Int) - ((x : Int) / ((2 ^ k : Nat) : Int)) % 2 * ((2 ^ k : Nat) : Int) + (c : Int) * ((2 ^ k : Nat) : Int) ∧ (x : Int) - ((x : Int) / ((2 ^ k : Nat) : Int)) % 2 * ((2 ^ k : Nat) : Int) + (c : Int) * ((2 ^ k : Nat) : Int) < 32 := by decide +kernel
theorem z_shr32 {x k c : Int} (hx : 0 ≤ x ∧ x < 32) (hk : 0 ≤ k ∧ k < 5) (hc : 0 ≤ c ∧ c < 2) : 0 ≤ x - z_bit x k * z_p2 k + c * z_p2 k ∧ x - z_bit x k * z_p2 k + c * z_p2 k < 32 := by
  obtain ⟨a, rfl⟩ := Int.eq_ofNat_of_zero_le hx.1
  obtain ⟨b, rfl⟩ := Int.eq_ofNat_of_zero_le hk.1
  obtain ⟨d, rfl⟩ := Int.eq_ofNat_of_zero_le hc.1
  unfold z_bit
  rw [z_p2_nat]
  exact z_dsh a (by omega) b (by omega) d (by omega)
/-- an int that isn't below 0, as a natural number's -/
theorem z_I_nat (n : Nat) : z_I (n : Int) = Int32.ofNat n := Int32.ofInt_eq_ofNat
theorem z_andp {x k : Int} (hx : 0 ≤ x ∧ x < 2147483648) (hk : 0 ≤ k ∧ k < 31) : z_I x &&& z_I (z_p2 k - 1) = z_I (x % z_p2 k) := by
  obtain ⟨a, rfl⟩ := Int.eq_ofNat_of_zero_le hx.1
  obtain ⟨b, rfl⟩ := Int.eq_ofNat_of_zero_le hk.1
  rw [z_p2_nat]
  have h1 : 0 < 2 ^ b := Nat.two_pow_pos b
  have h2 : 2 ^ b ≤ 2 ^ 30 := Nat.pow_le_pow_right (by omega) (by omega)
  rw [show (((2 ^ b : Nat) : Int) - 1) = ((2 ^ b - 1 : Nat) : Int) by omega, show ((a : Int) % ((2 ^ b : Nat) : Int)) = ((a % 2 ^ b : Nat) : Int) by push_cast; rfl]
  rw [z_I_nat, z_I_nat, z_I_nat]
  apply Int32.toBitVec.inj
  rw [Int32.toBitVec_and, Int32.toBitVec_ofNat', Int32.toBitVec_ofNat', Int32.toBitVec_ofNat']
  apply BitVec.eq_of_toNat_eq
  rw [BitVec.toNat_and, BitVec.toNat_ofNat, BitVec.toNat_ofNat, BitVec.toNat_ofNat]
  rw [Nat.mod_eq_of_lt (by omega : a < 2 ^ 32), Nat.mod_eq_of_lt (by omega : 2 ^ b - 1 < 2 ^ 32), Nat.and_two_pow_sub_one_eq_mod]
  have h3 : a % 2 ^ b < 2 ^ 32 := Nat.lt_of_le_of_lt (Nat.mod_le _ _) (by omega)
  rw [Nat.mod_eq_of_lt h3]
theorem z_and1 {x : Int} (hx : 0 ≤ x ∧ x < 2147483648) : z_I x &&& z_I 1 = z_I (x % 2) := z_andp (k := 1) hx (by omega)
theorem z_xor {a b : Int} (ha : 0 ≤ a ∧ a < 2147483648) (hb : 0 ≤ b ∧ b < 2147483648) : z_I a ^^^ z_I b = z_I (z_xr a b) := by
  obtain ⟨x, rfl⟩ := Int.eq_ofNat_of_zero_le ha.1
  obtain ⟨y, rfl⟩ := Int.eq_ofNat_of_zero_le hb.1
  unfold z_xr
  rw [Int.toNat_natCast, Int.toNat_natCast, z_I_nat, z_I_nat, z_I_nat]
  apply Int32.toBitVec.inj
  rw [Int32.toBitVec_xor, Int32.toBitVec_ofNat', Int32.toBitVec_ofNat', Int32.toBitVec_ofNat']
  apply BitVec.eq_of_toNat_eq
  have h := Nat.xor_lt_two_pow (x := x) (y := y) (n := 31) (by omega) (by omega)
  rw [BitVec.toNat_xor, BitVec.toNat_ofNat, BitVec.toNat_ofNat, BitVec.toNat_ofNat]
  rw [Nat.mod_eq_of_lt (by omega : x < 2 ^ 32), Nat.mod_eq_of_lt (by omega : y < 2 ^ 32), Nat.mod_eq_of_lt (by omega)]
theorem z_dxr : ∀ a : Nat, a < 33 → ∀ b : Nat, b < 33 → ∀ k : Nat, k < 5 → ((a ^^^ b) < 64 ∧ (((a ^^^ b) / 2 ^ k % 2 = 0) ↔ (a / 2 ^ k % 2 = b / 2 ^ k % 2))) := by decide +kernel
theorem z_xrb {a b k : Int} (ha : 0 ≤ a ∧ a < 33) (hb : 0 ≤ b ∧ b < 33) (hk : 0 ≤ k ∧ k < 5) : (0 ≤ z_xr a b ∧ z_xr a b < 64) ∧ (z_xr a b / z_p2 k % 2 = 0 ↔ z_bit a k = z_bit b k) := by
  obtain ⟨x, rfl⟩ := Int.eq_ofNat_of_zero_le ha.1
  obtain ⟨y, rfl⟩ := Int.eq_ofNat_of_zero_le hb.1
  obtain ⟨n, rfl⟩ := Int.eq_ofNat_of_zero_le hk.1
  unfold z_xr z_bit
  rw [z_p2_nat, Int.toNat_natCast, Int.toNat_natCast]
  obtain ⟨h1, h2⟩ := z_dxr x (by omega) y (by omega) n (by omega)
  refine ⟨by omega, ?_⟩
  constructor
  · intro h
    have h3 := h2.mp (by exact_mod_cast h)
    exact_mod_cast h3
  · intro h
    have h3 := h2.mpr (by exact_mod_cast h)
    exact_mod_cast h3
theorem z_bit01 (x k : Int) : z_bit x k = 0 ∨ z_bit x k = 1 := by
  unfold z_bit
  omega
end
section
/-! ===== the words of the wave ===== -/
theorem z_p2_pos (k : Int) : 0 < z_p2 k := by
  unfold z_p2
  exact Int.pow_pos (by omega)
theorem z_p2_le {k : Int} (h : 0 ≤ k ∧ k ≤ 5) : 1 ≤ z_p2 k ∧ z_p2 k ≤ 32 := by
  obtain ⟨n, rfl⟩ := Int.eq_ofNat_of_zero_le h.1
  rw [z_p2_nat]
  have : n ≤ 5 := by omega
  have h1 := Nat.two_pow_pos n
  have h2 : 2 ^ n ≤ 2 ^ 5 := Nat.pow_le_pow_right (by omega) this
  omega
abbrev z_R : Type := Int × Int × Int × (Int → Int) × (Int → Int)
/-- a turning of the stage k begins x times, at the time t -/
def z_bg (t : Int) (dl : Int → Int) (k x : Int) (du : Int → Int) : Int → Int := z_u du (k * 21 + (t + dl k) % 21) (du (k * 21 + (t + dl k) % 21) + x)
/-- the stage k's turnings that are due are done: how many in all, the outputs, those on their way, those done, those due -/
def z_tdS (t st : Int) (dl : Int → Int) (k : Int) (r : z_R) : z_R :=
  if 0 < r.2.2.2.2 (k * 21 + t % 21) then
    if k + 1 < st then (r.1 + r.2.2.2.2 (k * 21 + t % 21), r.2.1 - z_bit r.2.1 k * z_p2 k + (z_bit r.2.1 k + r.2.2.2.2 (k * 21 + t % 21)) % 2 * z_p2 k, r.2.2.1 - r.2.2.2.2 (k * 21 + t % 21) + (z_bit r.2.1 k + r.2.2.2.2 (k * 21 + t % 21)) / 2, z_u r.2.2.2.1 k (r.2.2.2.1 k + r.2.2.2.2 (k * 21 + t % 21)), z_bg t dl (k + 1) ((z_bit r.2.1 k + r.2.2.2.2 (k * 21 + t % 21)) / 2) (z_u r.2.2.2.2 (k * 21 + t % 21) 0))
    else (r.1 + r.2.2.2.2 (k * 21 + t % 21), r.2.1 - z_bit r.2.1 k * z_p2 k + (z_bit r.2.1 k + r.2.2.2.2 (k * 21 + t % 21)) % 2 * z_p2 k, r.2.2.1 - r.2.2.2.2 (k * 21 + t % 21), z_u r.2.2.2.1 k (r.2.2.2.1 k + r.2.2.2.2 (k * 21 + t % 21)), z_u r.2.2.2.2 (k * 21 + t % 21) 0)
  else r
theorem z_tdS_1 {t st : Int} {dl : Int → Int} {k : Int} {r : z_R} (h1 : 0 < r.2.2.2.2 (k * 21 + t % 21)) (h2 : k + 1 < st) : z_tdS t st dl k r = (r.1 + r.2.2.2.2 (k * 21 + t % 21), r.2.1 - z_bit r.2.1 k * z_p2 k + (z_bit r.2.1 k + r.2.2.2.2 (k * 21 + t % 21)) % 2 * z_p2 k, r.2.2.1 - r.2.2.2.2 (k * 21 + t % 21) + (z_bit r.2.1 k + r.2.2.2.2 (k * 21 + t % 21)) / 2, z_u r.2.2.2.1 k (r.2.2.2.1 k + r.2.2.2.2 (k * 21 + t % 21)), z_bg t dl (k + 1) ((z_bit r.2.1 k + r.2.2.2.2 (k * 21 + t % 21)) / 2) (z_u r.2.2.2.2 (k * 21 + t % 21) 0)) := by
  unfold z_tdS
  rw [if_pos h1, if_pos h2]
theorem z_tdS_2 {t st : Int} {dl : Int → Int} {k : Int} {r : z_R} (h1 : 0 < r.2.2.2.2 (k * 21 + t % 21)) (h2 : ¬ k + 1 < st) : z_tdS t st dl k r = (r.1 + r.2.2.2.2 (k * 21 + t % 21), r.2.1 - z_bit r.2.1 k * z_p2 k + (z_bit r.2.1 k + r.2.2.2.2 (k * 21 + t % 21)) % 2 * z_p2 k, r.2.2.1 - r.2.2.2.2 (k * 21 + t % 21), z_u r.2.2.2.1 k (r.2.2.2.1 k + r.2.2.2.2 (k * 21 + t % 21)), z_u r.2.2.2.2 (k * 21 + t % 21) 0) := by
  unfold z_tdS
  rw [if_pos h1, if_neg h2]
theorem z_tdS_3 {t st : Int} {dl : Int → Int} {k : Int} {r : z_R} (h1 : ¬ 0 < r.2.2.2.2 (k * 21 + t % 21)) : z_tdS t st dl k r = r := by
  unfold z_tdS
  rw [if_neg h1]
/-- whether a reading is true: stage by stage, from the stage k on, n stages -/
def z_rt (dl : Int → Int) (c g : Int) (k th : Int) : Nat → Int
  | 0 => 1
  | n + 1 => if z_bit (if 0 < c - (th + dl k) / g then c - (th + dl k) / g else 0) k = z_bit c k then z_rt dl c g (k + 1) (th + dl k) n else 0
theorem z_rt_step {dl : Int → Int} {c g k th : Int} {n m : Nat} (h : n = m + 1) : z_rt dl c g k th n = if z_bit (if 0 < c - (th + dl k) / g then c - (th + dl k) / g else 0) k = z_bit c k then z_rt dl c g (k + 1) (th + dl k) m else 0 := by
  subst h
  rfl
theorem z_rt01 (dl : Int → Int) (c g : Int) : ∀ (n : Nat) (k th : Int), z_rt dl c g k th n = 0 ∨ z_rt dl c g k th n = 1
  | 0, _, _ => Or.inr rfl
  | n + 1, k, th => by
    rw [z_rt_step (m := n) rfl]
    by_cases h : z_bit (if 0 < c - (th + dl k) / g then c - (th + dl k) / g else 0) k = z_bit c k
    · rw [if_pos h]
      exact z_rt01 dl c g n (k + 1) (th + dl k)
    · rw [if_neg h]
      exact Or.inl rfl
section ZX
variable {p : Program} {l : Launch} {e : Env} {R : Room} {s : State} {m : MethodId} {args : Array Value} {below : List Frame} {meth : Method} {c : Code} {D : va_G} {A : Nat → Prop} {nL cells slots : Nat} {Q : State → Prop} {ws : va_W} {pc : Nat} {lv : List (Nat × Value)} {st : List Value}
/-- an array's content may be told by another function that is the same within its length -/
theorem z_cell {cA : ClassId} {n : Nat} {f g : Int → Int} (h : ∀ i : Int, 0 ≤ i → i < (n : Int) → f i = g i) : vp_cell cA (n, .inl (z_F f)) = vp_cell cA (n, .inl (z_F g)) := by
  show arrV cA n (fun j => .int (z_F f j)) = arrV cA n (fun j => .int (z_F g j))
  unfold arrV
  congr 1
  apply Array.ext
  · simp
  · intro i h1 h2
    simp only [Array.getElem_ofFn]
    unfold z_F
    rw [h (i : Int) (by omega) (by simp at h1; omega)]
theorem z_arr (q0 : Nat) (g : Int → Int) (ws' : va_W) {a n : Nat} {cA : ClassId} {f : Int → Int} (ha : ws[q0]? = some (a, z_ai cA n f)) (h : ∀ i : Int, 0 ≤ i → i < (n : Int) → f i = g i) (hws : ws.set q0 (a, z_ai cA n g) = ws') (kk : z_V p l e R s m args below meth c D A nL cells slots Q ws' pc lv st) : z_V p l e R s m args below meth c D A nL cells slots Q ws pc lv st := by
  intro H locs ls hP hD hS hl
  have h1 : va_at D vwCl (a, z_ai cA n g) H := by
    have h2 := hP q0 _ ha
    show H[a]? = some (vp_cell cA (n, .inl (z_F g)))
    rw [← z_cell h]
    exact h2
  refine kk H locs ls (hws ▸ hP.set hD ha h1 (fun _ _ => rfl)) (hws ▸ hD.set ha) hS hl
end ZX
theorem z_cp_full {f g : Int → Int} {n i : Int} (h1 : 0 ≤ i) (h2 : i < n) : z_cp f g 0 0 n i = f i := by
  unfold z_cp
  rw [if_pos (by omega)]
  congr 1
  omega
theorem z_fitZ {x : Int} (h : x = 0 ∨ x = 1) : fits .boolean (.int (z_I x)) = true := by rcases h with rfl | rfl <;> decide
theorem z_narZ {x : Int} (h : x = 0 ∨ x = 1) : vp_nar .boolean (z_I x) = z_I x := by rcases h with rfl | rfl <;> decide
theorem z_if0 {P : Prop} {d : Decidable P} : (if P then (1 : Int) else 0) = 0 ↔ ¬ P := by
  by_cases h : P <;> simp [h]
theorem z_if1 {P : Prop} {d : Decidable P} : ¬ (if P then (1 : Int) else 0) = 0 ↔ P := by
  by_cases h : P <;> simp [h]
def z_or (a b : Int) : Int := (z_I a ||| z_I b).toInt
theorem z_or_eq (a b : Int) : z_I a ||| z_I b = z_I (z_or a b) := (z_I_of _).symm
end
section
theorem zd_J7_fill_53178 : yJ7_fill_53178.cls ≠ "java/lang/invoke/MethodHandle" ∧ yJ7_fill_53178.cls ≠ "java/lang/invoke/VarHandle" ∧ (parseMethodDescriptor yJ7_fill_53178.desc).map (fun d => d.parameters.length) = some 2 := by decide +kernel
set_option maxHeartbeats 4000000 in
set_option maxRecDepth 100000 in
theorem c_J7_fill_53178_5 (l : Launch) (D : va_G) (cI cZ cO : ClassId) (a : Nat) (f : Int → Int) (v : Int) : z_Mv l yJ7_fill_53178 wsJ7_fill_53178 0 0 D (z_T cI cZ cO) [.ref a, .int (z_I v)] [(a, z_ai cI 5 f)] [(a, z_ai cI 5 (fun _ => v))] := by
  refine z_Mv_of (cc := cJ7_fill_53178) (nL := 4) (ret := none) (by decide +kernel) rfl (Nat.le_of_ble_eq_true rfl) ?_
  intro p e s m args below meth c A Q C hQ
  change z_V p l e { frames := 0, cells := 0, slots := 0, locals := 0 } s m args below meth c D A 4 0 0 Q [(a, z_ai cI 5 f)] 0 [(0, .ref a), (1, .int (z_I v))] []
  refine z_iconst C 0 dJ7_fill_53178_0 ?_
  refine z_istore_n C [(2, .int (z_I 0)), (0, .ref a), (1, .int (z_I v))] dJ7_fill_53178_1 (by decide) rfl ?_
  refine z_aload_n C 1 dJ7_fill_53178_2 rfl ?_
  refine z_alen C 0 0 rfl rfl dJ7_fill_53178_3 ?_
  refine z_istore_n C [(3, .int (z_I 5)), (2, .int (z_I 0)), (0, .ref a), (1, .int (z_I v))] dJ7_fill_53178_4 (by decide) rfl ?_
  have loop5 : ∀ (zn : Nat) (k : Int) (g : Int → Int), 0 ≤ k ∧ k ≤ 5 → (∀ i : Int, 0 ≤ i → i < k → g i = v) → (5 - k) < (zn : Int) → z_V p l e { frames := 0, cells := 0, slots := 0, locals := 0 } s m args below meth c D A 4 0 0 Q [(a, z_ai cI 5 g)] 5 [(2, .int (z_I k)), (3, .int (z_I 5)), (0, .ref a), (1, .int (z_I v))] [] := by
    intro zn
    induction zn with
    | zero => intro k g hk hg hm; exact absurd hm (by omega)
    | succ zn ih =>
      intro k g hk hg hm
      refine z_iload_n C 0 dJ7_fill_53178_5 rfl ?_
      refine z_iload_n C 1 dJ7_fill_53178_6 rfl ?_
      refine z_icmp_ge C 20 dJ7_fill_53178_7 (by decide) (by omega) (by omega) (fun hc1 => ?_) (fun hc1 => ?_)
      · skip
        refine z_arr (c := c) 0 (fun _ => v) [(a, z_ai cI 5 (fun _ => v))] rfl (fun i h1 h2 => hg i h1 (by omega)) rfl ?_
        exact z_vret C hQ rfl dJ7_fill_53178_20
      · skip
        refine z_aload_n C 2 dJ7_fill_53178_10 rfl ?_
        refine z_iload_n C 0 dJ7_fill_53178_11 rfl ?_
        refine z_iload_n C 3 dJ7_fill_53178_12 rfl ?_
        refine z_iast C 0 0 [(a, z_ai cI 5 (z_u g k v))] rfl rfl (by decide) (by omega) rfl dJ7_fill_53178_13 ?_
        refine z_iinc C 0 [(2, .int (z_I (k + 1))), (3, .int (z_I 5)), (0, .ref a), (1, .int (z_I v))] dJ7_fill_53178_14 rfl (by decide) rfl ?_
        refine z_goto C 5 dJ7_fill_53178_17 (by decide) ?_
        exact ih (k + 1) (z_u g k v) (by first | assumption | omega) (fun i h1 h2 => by by_cases h3 : i = k; (· subst h3; exact z_u_same _ _ _); (· rw [z_u_ne h3]; exact hg i h1 (by omega))) (by omega)
  refine z_lsub [(2, .int (z_I 0)), (3, .int (z_I 5)), (0, .ref a), (1, .int (z_I v))] [1, 0, 2, 3] rfl ?_
  exact loop5 6 0 f (by first | assumption | omega) (fun i h1 h2 => absurd h1 (by omega)) (by omega)
set_option maxHeartbeats 4000000 in
set_option maxRecDepth 100000 in
theorem c_J7_fill_53178_32 (l : Launch) (D : va_G) (cI cZ cO : ClassId) (a : Nat) (f : Int → Int) (v : Int) : z_Mv l yJ7_fill_53178 wsJ7_fill_53178 0 0 D (z_T cI cZ cO) [.ref a, .int (z_I v)] [(a, z_ai cI 32 f)] [(a, z_ai cI 32 (fun _ => v))] := by
  refine z_Mv_of (cc := cJ7_fill_53178) (nL := 4) (ret := none) (by decide +kernel) rfl (Nat.le_of_ble_eq_true rfl) ?_
  intro p e s m args below meth c A Q C hQ
  change z_V p l e { frames := 0, cells := 0, slots := 0, locals := 0 } s m args below meth c D A 4 0 0 Q [(a, z_ai cI 32 f)] 0 [(0, .ref a), (1, .int (z_I v))] []
  refine z_iconst C 0 dJ7_fill_53178_0 ?_
  refine z_istore_n C [(2, .int (z_I 0)), (0, .ref a), (1, .int (z_I v))] dJ7_fill_53178_1 (by decide) rfl ?_
  refine z_aload_n C 1 dJ7_fill_53178_2 rfl ?_
  refine z_alen C 0 0 rfl rfl dJ7_fill_53178_3 ?_
  refine z_istore_n C [(3, .int (z_I 32)), (2, .int (z_I 0)), (0, .ref a), (1, .int (z_I v))] dJ7_fill_53178_4 (by decide) rfl ?_
  have loop5 : ∀ (zn : Nat) (k : Int) (g : Int → Int), 0 ≤ k ∧ k ≤ 32 → (∀ i : Int, 0 ≤ i → i < k → g i = v) → (32 - k) < (zn : Int) → z_V p l e { frames := 0, cells := 0, slots := 0, locals := 0 } s m args below meth c D A 4 0 0 Q [(a, z_ai cI 32 g)] 5 [(2, .int (z_I k)), (3, .int (z_I 32)), (0, .ref a), (1, .int (z_I v))] [] := by
    intro zn
    induction zn with
    | zero => intro k g hk hg hm; exact absurd hm (by omega)
    | succ zn ih =>
      intro k g hk hg hm
      refine z_iload_n C 0 dJ7_fill_53178_5 rfl ?_
      refine z_iload_n C 1 dJ7_fill_53178_6 rfl ?_
      refine z_icmp_ge C 20 dJ7_fill_53178_7 (by decide) (by omega) (by omega) (fun hc1 => ?_) (fun hc1 => ?_)
      · skip
        refine z_arr (c := c) 0 (fun _ => v) [(a, z_ai cI 32 (fun _ => v))] rfl (fun i h1 h2 => hg i h1 (by omega)) rfl ?_
        exact z_vret C hQ rfl dJ7_fill_53178_20
      · skip
        refine z_aload_n C 2 dJ7_fill_53178_10 rfl ?_
        refine z_iload_n C 0 dJ7_fill_53178_11 rfl ?_
        refine z_iload_n C 3 dJ7_fill_53178_12 rfl ?_
        refine z_iast C 0 0 [(a, z_ai cI 32 (z_u g k v))] rfl rfl (by decide) (by omega) rfl dJ7_fill_53178_13 ?_
        refine z_iinc C 0 [(2, .int (z_I (k + 1))), (3, .int (z_I 32)), (0, .ref a), (1, .int (z_I v))] dJ7_fill_53178_14 rfl (by decide) rfl ?_
        refine z_goto C 5 dJ7_fill_53178_17 (by decide) ?_
        exact ih (k + 1) (z_u g k v) (by first | assumption | omega) (fun i h1 h2 => by by_cases h3 : i = k; (· subst h3; exact z_u_same _ _ _); (· rw [z_u_ne h3]; exact hg i h1 (by omega))) (by omega)
  refine z_lsub [(2, .int (z_I 0)), (3, .int (z_I 32)), (0, .ref a), (1, .int (z_I v))] [1, 0, 2, 3] rfl ?_
  exact loop5 33 0 f (by first | assumption | omega) (fun i h1 h2 => absurd h1 (by omega)) (by omega)
set_option maxHeartbeats 4000000 in
set_option maxRecDepth 100000 in
theorem c_J7_fill_53178_105 (l : Launch) (D : va_G) (cI cZ cO : ClassId) (a : Nat) (f : Int → Int) (v : Int) : z_Mv l yJ7_fill_53178 wsJ7_fill_53178 0 0 D (z_T cI cZ cO) [.ref a, .int (z_I v)] [(a, z_ai cI 105 f)] [(a, z_ai cI 105 (fun _ => v))] := by
  refine z_Mv_of (cc := cJ7_fill_53178) (nL := 4) (ret := none) (by decide +kernel) rfl (Nat.le_of_ble_eq_true rfl) ?_
  intro p e s m args below meth c A Q C hQ
  change z_V p l e { frames := 0, cells := 0, slots := 0, locals := 0 } s m args below meth c D A 4 0 0 Q [(a, z_ai cI 105 f)] 0 [(0, .ref a), (1, .int (z_I v))] []
  refine z_iconst C 0 dJ7_fill_53178_0 ?_
  refine z_istore_n C [(2, .int (z_I 0)), (0, .ref a), (1, .int (z_I v))] dJ7_fill_53178_1 (by decide) rfl ?_
  refine z_aload_n C 1 dJ7_fill_53178_2 rfl ?_
  refine z_alen C 0 0 rfl rfl dJ7_fill_53178_3 ?_
  refine z_istore_n C [(3, .int (z_I 105)), (2, .int (z_I 0)), (0, .ref a), (1, .int (z_I v))] dJ7_fill_53178_4 (by decide) rfl ?_
  have loop5 : ∀ (zn : Nat) (k : Int) (g : Int → Int), 0 ≤ k ∧ k ≤ 105 → (∀ i : Int, 0 ≤ i → i < k → g i = v) → (105 - k) < (zn : Int) → z_V p l e { frames := 0, cells := 0, slots := 0, locals := 0 } s m args below meth c D A 4 0 0 Q [(a, z_ai cI 105 g)] 5 [(2, .int (z_I k)), (3, .int (z_I 105)), (0, .ref a), (1, .int (z_I v))] [] := by
    intro zn
    induction zn with
    | zero => intro k g hk hg hm; exact absurd hm (by omega)
    | succ zn ih =>
      intro k g hk hg hm
      refine z_iload_n C 0 dJ7_fill_53178_5 rfl ?_
      refine z_iload_n C 1 dJ7_fill_53178_6 rfl ?_
      refine z_icmp_ge C 20 dJ7_fill_53178_7 (by decide) (by omega) (by omega) (fun hc1 => ?_) (fun hc1 => ?_)
      · skip
        refine z_arr (c := c) 0 (fun _ => v) [(a, z_ai cI 105 (fun _ => v))] rfl (fun i h1 h2 => hg i h1 (by omega)) rfl ?_
        exact z_vret C hQ rfl dJ7_fill_53178_20
      · skip
        refine z_aload_n C 2 dJ7_fill_53178_10 rfl ?_
        refine z_iload_n C 0 dJ7_fill_53178_11 rfl ?_
        refine z_iload_n C 3 dJ7_fill_53178_12 rfl ?_
        refine z_iast C 0 0 [(a, z_ai cI 105 (z_u g k v))] rfl rfl (by decide) (by omega) rfl dJ7_fill_53178_13 ?_
        refine z_iinc C 0 [(2, .int (z_I (k + 1))), (3, .int (z_I 105)), (0, .ref a), (1, .int (z_I v))] dJ7_fill_53178_14 rfl (by decide) rfl ?_
        refine z_goto C 5 dJ7_fill_53178_17 (by decide) ?_
        exact ih (k + 1) (z_u g k v) (by first | assumption | omega) (fun i h1 h2 => by by_cases h3 : i = k; (· subst h3; exact z_u_same _ _ _); (· rw [z_u_ne h3]; exact hg i h1 (by omega))) (by omega)
  refine z_lsub [(2, .int (z_I 0)), (3, .int (z_I 105)), (0, .ref a), (1, .int (z_I v))] [1, 0, 2, 3] rfl ?_
  exact loop5 106 0 f (by first | assumption | omega) (fun i h1 h2 => absurd h1 (by omega)) (by omega)
theorem zi_X5_hasStage_X5 : ∀ w ∈ u_ws RX5 TX5 7, w ∈ wsX5_hasStage := by decide +kernel
theorem zl_X5_hasStage_9 : Cond.fieldLink RX5 9 "RippleCounts$Wave" "stages" "I" ∈ wsX5_hasStage := by decide +kernel
theorem zd_X5_hasStage : yX5_hasStage.cls ≠ "java/lang/invoke/MethodHandle" ∧ yX5_hasStage.cls ≠ "java/lang/invoke/VarHandle" ∧ (parseMethodDescriptor yX5_hasStage.desc).map (fun d => d.parameters.length) = some 1 := by decide +kernel
set_option maxHeartbeats 4000000 in
set_option maxRecDepth 100000 in
theorem c_X5_hasStage (l : Launch) (D : va_G) (cI cZ cO : ClassId) (hW aD aN aU : Nat) (t st sh ow : Int) (dl dn du : Int → Int) (k : Int) (hk : -2147483648 ≤ k ∧ k < 2147483648) (hst : 0 ≤ st ∧ st ≤ 5) : z_Mi l yX5_hasStage wsX5_hasStage 0 0 D (z_T cI cZ cO) [.ref hW, .int (z_I k)] [(hW, .inr (5, [.int (z_I t), .int (z_I st), .int (z_I sh), .int (z_I ow), .ref aD, .ref aN, .ref aU])), (aD, z_ai cI 5 dl), (aN, z_ai cI 5 dn), (aU, z_ai cI 105 du)] [(hW, .inr (5, [.int (z_I t), .int (z_I st), .int (z_I sh), .int (z_I ow), .ref aD, .ref aN, .ref aU])), (aD, z_ai cI 5 dl), (aN, z_ai cI 5 dn), (aU, z_ai cI 105 du)] (if 0 ≤ k ∧ k < st then 1 else 0) := by
  refine z_Mi_of (cc := cX5_hasStage) (nL := 2) (ret := (some .boolean)) (by decide +kernel) rfl (Nat.le_of_ble_eq_true rfl) ?_
  intro p e s m args below meth c A Q C hQ
  change z_V p l e { frames := 0, cells := 0, slots := 0, locals := 0 } s m args below meth c D A 2 0 0 Q [(hW, .inr (5, [.int (z_I t), .int (z_I st), .int (z_I sh), .int (z_I ow), .ref aD, .ref aN, .ref aU])), (aD, z_ai cI 5 dl), (aN, z_ai cI 5 dn), (aU, z_ai cI 105 du)] 0 [(0, .ref hW), (1, .int (z_I k))] []
  refine z_iload_n C 1 dX5_hasStage_0 rfl ?_
  refine z_if_lt C 16 dX5_hasStage_1 (by decide) (by omega) (fun hc1 => ?_) (fun hc1 => ?_)
  · skip
    refine z_iconst C 0 dX5_hasStage_16 ?_
    exact z_zret C hQ rfl (by first | rfl | omega | ((repeat' split) <;> omega)) (by omega) dX5_hasStage_17
  · skip
    refine z_iload_n C 1 dX5_hasStage_4 rfl ?_
    refine z_aload_n C 0 dX5_hasStage_5 rfl ?_
    refine z_get C 0 1 zi_X5_hasStage_X5 rfl rfl (by decide) zl_X5_hasStage_9 rfl rfl dX5_hasStage_6 ?_
    refine z_icmp_ge C 16 dX5_hasStage_9 (by decide) (by omega) (by omega) (fun hc2 => ?_) (fun hc2 => ?_)
    · skip
      refine z_iconst C 0 dX5_hasStage_16 ?_
      exact z_zret C hQ rfl (by first | rfl | omega | ((repeat' split) <;> omega)) (by omega) dX5_hasStage_17
    · skip
      refine z_iconst C 1 dX5_hasStage_12 ?_
      refine z_goto C 17 dX5_hasStage_13 (by decide) ?_
      exact z_zret C hQ rfl (by first | rfl | omega | ((repeat' split) <;> omega)) (by omega) dX5_hasStage_17
theorem zi_X5_output_X5 : ∀ w ∈ u_ws RX5 TX5 7, w ∈ wsX5_output := by decide +kernel
theorem zl_X5_output_34 : Cond.fieldLink RX5 34 "RippleCounts$Wave" "shows" "I" ∈ wsX5_output := by decide +kernel
theorem zd_X5_output : yX5_output.cls ≠ "java/lang/invoke/MethodHandle" ∧ yX5_output.cls ≠ "java/lang/invoke/VarHandle" ∧ (parseMethodDescriptor yX5_output.desc).map (fun d => d.parameters.length) = some 1 := by decide +kernel
set_option maxHeartbeats 4000000 in
set_option maxRecDepth 100000 in
theorem c_X5_output (l : Launch) (D : va_G) (cI cZ cO : ClassId) (hW aD aN aU : Nat) (t st sh ow : Int) (dl dn du : Int → Int) (k : Int) (hk : 0 ≤ k ∧ k < 5) (hsh : 0 ≤ sh ∧ sh < 32) : z_Mi l yX5_output wsX5_output 0 0 D (z_T cI cZ cO) [.ref hW, .int (z_I k)] [(hW, .inr (5, [.int (z_I t), .int (z_I st), .int (z_I sh), .int (z_I ow), .ref aD, .ref aN, .ref aU])), (aD, z_ai cI 5 dl), (aN, z_ai cI 5 dn), (aU, z_ai cI 105 du)] [(hW, .inr (5, [.int (z_I t), .int (z_I st), .int (z_I sh), .int (z_I ow), .ref aD, .ref aN, .ref aU])), (aD, z_ai cI 5 dl), (aN, z_ai cI 5 dn), (aU, z_ai cI 105 du)] (z_bit sh k) := by
  refine z_Mi_of (cc := cX5_output) (nL := 2) (ret := (some .int)) (by decide +kernel) rfl (Nat.le_of_ble_eq_true rfl) ?_
  intro p e s m args below meth c A Q C hQ
  change z_V p l e { frames := 0, cells := 0, slots := 0, locals := 0 } s m args below meth c D A 2 0 0 Q [(hW, .inr (5, [.int (z_I t), .int (z_I st), .int (z_I sh), .int (z_I ow), .ref aD, .ref aN, .ref aU])), (aD, z_ai cI 5 dl), (aN, z_ai cI 5 dn), (aU, z_ai cI 105 du)] 0 [(0, .ref hW), (1, .int (z_I k))] []
  refine z_aload_n C 0 dX5_output_0 rfl ?_
  refine z_get C 0 2 zi_X5_output_X5 rfl rfl (by decide) zl_X5_output_34 rfl rfl dX5_output_1 ?_
  refine z_iload_n C 1 dX5_output_4 rfl ?_
  refine z_ishr C (sh / z_p2 k) dX5_output_5 (z_shr (by omega) (by omega)) ?_
  refine z_iconst C 1 dX5_output_6 ?_
  refine z_iand C (sh / z_p2 k % 2) dX5_output_7 (z_and1 ⟨Int.ediv_nonneg hsh.1 (Int.le_of_lt (z_p2_pos k)), by have := Int.ediv_le_self (z_p2 k) hsh.1; omega⟩) ?_
  exact z_iret C hQ rfl rfl dX5_output_8
theorem zi_X5_begin_X5 : ∀ w ∈ u_ws RX5 TX5 7, w ∈ wsX5_begin := by decide +kernel
theorem zl_X5_begin_15 : Cond.fieldLink RX5 15 "RippleCounts$Wave" "delays" "[I" ∈ wsX5_begin := by decide +kernel
theorem zl_X5_begin_22 : Cond.fieldLink RX5 22 "RippleCounts$Wave" "due" "[I" ∈ wsX5_begin := by decide +kernel
theorem zl_X5_begin_31 : Cond.fieldLink RX5 31 "RippleCounts$Wave" "time" "I" ∈ wsX5_begin := by decide +kernel
theorem zl_X5_begin_37 : Cond.fieldLink RX5 37 "RippleCounts$Wave" "onTheirWay" "I" ∈ wsX5_begin := by decide +kernel
theorem zd_X5_begin : yX5_begin.cls ≠ "java/lang/invoke/MethodHandle" ∧ yX5_begin.cls ≠ "java/lang/invoke/VarHandle" ∧ (parseMethodDescriptor yX5_begin.desc).map (fun d => d.parameters.length) = some 2 := by decide +kernel
set_option maxHeartbeats 4000000 in
set_option maxRecDepth 100000 in
theorem c_X5_begin (l : Launch) (D : va_G) (cI cZ cO : ClassId) (hW aD aN aU : Nat) (t st sh ow : Int) (dl dn du : Int → Int) (k x : Int) (hk : 0 ≤ k ∧ k < 5) (ht : 0 ≤ t ∧ t < 1000000) (hd : 1 ≤ dl k ∧ dl k ≤ 20) : z_Mv l yX5_begin wsX5_begin 0 0 D (z_T cI cZ cO) [.ref hW, .int (z_I k), .int (z_I x)] [(hW, .inr (5, [.int (z_I t), .int (z_I st), .int (z_I sh), .int (z_I ow), .ref aD, .ref aN, .ref aU])), (aD, z_ai cI 5 dl), (aN, z_ai cI 5 dn), (aU, z_ai cI 105 du)] [(hW, .inr (5, [.int (z_I t), .int (z_I st), .int (z_I sh), .int (z_I (ow + x)), .ref aD, .ref aN, .ref aU])), (aD, z_ai cI 5 dl), (aN, z_ai cI 5 dn), (aU, z_ai cI 105 (z_bg t dl k x du))] := by
  refine z_Mv_of (cc := cX5_begin) (nL := 3) (ret := none) (by decide +kernel) rfl (Nat.le_of_ble_eq_true rfl) ?_
  intro p e s m args below meth c A Q C hQ
  change z_V p l e { frames := 0, cells := 0, slots := 0, locals := 0 } s m args below meth c D A 3 0 0 Q [(hW, .inr (5, [.int (z_I t), .int (z_I st), .int (z_I sh), .int (z_I ow), .ref aD, .ref aN, .ref aU])), (aD, z_ai cI 5 dl), (aN, z_ai cI 5 dn), (aU, z_ai cI 105 du)] 0 [(0, .ref hW), (1, .int (z_I k)), (2, .int (z_I x))] []
  refine z_aload_n C 0 dX5_begin_0 rfl ?_
  refine z_get C 0 6 zi_X5_begin_X5 rfl rfl (by decide) zl_X5_begin_22 rfl rfl dX5_begin_1 ?_
  refine z_iload_n C 1 dX5_begin_4 rfl ?_
  refine z_bipush C 21 dX5_begin_5 (by decide) ?_
  refine z_imul C dX5_begin_7 ?_
  refine z_aload_n C 0 dX5_begin_8 rfl ?_
  refine z_get C 0 0 zi_X5_begin_X5 rfl rfl (by decide) zl_X5_begin_31 rfl rfl dX5_begin_9 ?_
  refine z_aload_n C 0 dX5_begin_12 rfl ?_
  refine z_get C 0 4 zi_X5_begin_X5 rfl rfl (by decide) zl_X5_begin_15 rfl rfl dX5_begin_13 ?_
  refine z_iload_n C 1 dX5_begin_16 rfl ?_
  refine z_iald C 1 0 rfl rfl (by decide) (by omega) dX5_begin_17 ?_
  refine z_iadd C dX5_begin_18 ?_
  refine z_bipush C 21 dX5_begin_19 (by decide) ?_
  refine z_irem C dX5_begin_21 (by omega) (by omega) ?_
  refine z_iadd C dX5_begin_22 ?_
  refine z_dup2 C dX5_begin_23 rfl rfl ?_
  refine z_iald C 3 0 rfl rfl (by decide) (by omega) dX5_begin_24 ?_
  refine z_iload_n C 2 dX5_begin_25 rfl ?_
  refine z_iadd C dX5_begin_26 ?_
  refine z_iast C 3 0 [(hW, .inr (5, [.int (z_I t), .int (z_I st), .int (z_I sh), .int (z_I ow), .ref aD, .ref aN, .ref aU])), (aD, z_ai cI 5 dl), (aN, z_ai cI 5 dn), (aU, z_ai cI 105 (z_u du ((k * 21) + ((t + (dl k)) % 21)) ((du ((k * 21) + ((t + (dl k)) % 21))) + x)))] rfl rfl (by decide) (by omega) rfl dX5_begin_27 ?_
  refine z_aload_n C 0 dX5_begin_28 rfl ?_
  refine z_dup C dX5_begin_29 rfl ?_
  refine z_get C 0 3 zi_X5_begin_X5 rfl rfl (by decide) zl_X5_begin_37 rfl rfl dX5_begin_30 ?_
  refine z_iload_n C 2 dX5_begin_33 rfl ?_
  refine z_iadd C dX5_begin_34 ?_
  refine z_put C 0 3 [(hW, .inr (5, [.int (z_I t), .int (z_I st), .int (z_I sh), .int (z_I (ow + x)), .ref aD, .ref aN, .ref aU])), (aD, z_ai cI 5 dl), (aN, z_ai cI 5 dn), (aU, z_ai cI 105 (z_u du ((k * 21) + ((t + (dl k)) % 21)) ((du ((k * 21) + ((t + (dl k)) % 21))) + x)))] zi_X5_begin_X5 tyX5_ok nmX5 rfl rfl (by decide) zl_X5_begin_37 rfl rfl rfl rfl (Nat.le_of_ble_eq_true rfl) rfl dX5_begin_35 ?_
  exact z_vret C hQ rfl dX5_begin_38
theorem zi_X5_turnOver_X5 : ∀ w ∈ u_ws RX5 TX5 7, w ∈ wsX5_turnOver := by decide +kernel
theorem zl_X5_turnOver_19 : Cond.fieldLink RX5 19 "RippleCounts$Wave" "done" "[I" ∈ wsX5_turnOver := by decide +kernel
theorem zl_X5_turnOver_34 : Cond.fieldLink RX5 34 "RippleCounts$Wave" "shows" "I" ∈ wsX5_turnOver := by decide +kernel
theorem zd_X5_turnOver : yX5_turnOver.cls ≠ "java/lang/invoke/MethodHandle" ∧ yX5_turnOver.cls ≠ "java/lang/invoke/VarHandle" ∧ (parseMethodDescriptor yX5_turnOver.desc).map (fun d => d.parameters.length) = some 2 := by decide +kernel
set_option maxHeartbeats 4000000 in
set_option maxRecDepth 100000 in
theorem c_X5_turnOver (l : Launch) (D : va_G) (cI cZ cO : ClassId) (hW aD aN aU : Nat) (t st sh ow : Int) (dl dn du : Int → Int) (k x : Int) (hk : 0 ≤ k ∧ k < 5) (hsh : 0 ≤ sh ∧ sh < 32) (hx : 0 ≤ x ∧ x < 1000000) : z_Mi l yX5_turnOver wsX5_turnOver 0 0 D (z_T cI cZ cO) [.ref hW, .int (z_I k), .int (z_I x)] [(hW, .inr (5, [.int (z_I t), .int (z_I st), .int (z_I sh), .int (z_I ow), .ref aD, .ref aN, .ref aU])), (aD, z_ai cI 5 dl), (aN, z_ai cI 5 dn), (aU, z_ai cI 105 du)] [(hW, .inr (5, [.int (z_I t), .int (z_I st), .int (z_I (sh - z_bit sh k * z_p2 k + (z_bit sh k + x) % 2 * z_p2 k)), .int (z_I ow), .ref aD, .ref aN, .ref aU])), (aD, z_ai cI 5 dl), (aN, z_ai cI 5 (z_u dn k (dn k + x))), (aU, z_ai cI 105 du)] ((z_bit sh k + x) / 2) := by
  refine z_Mi_of (cc := cX5_turnOver) (nL := 4) (ret := (some .int)) (by decide +kernel) rfl (Nat.le_of_ble_eq_true rfl) ?_
  intro p e s m args below meth c A Q C hQ
  change z_V p l e { frames := 0, cells := 0, slots := 0, locals := 0 } s m args below meth c D A 4 0 0 Q [(hW, .inr (5, [.int (z_I t), .int (z_I st), .int (z_I sh), .int (z_I ow), .ref aD, .ref aN, .ref aU])), (aD, z_ai cI 5 dl), (aN, z_ai cI 5 dn), (aU, z_ai cI 105 du)] 0 [(0, .ref hW), (1, .int (z_I k)), (2, .int (z_I x))] []
  have hb := z_bit01 sh k
  refine z_aload_n C 0 dX5_turnOver_0 rfl ?_
  refine z_get C 0 2 zi_X5_turnOver_X5 rfl rfl (by decide) zl_X5_turnOver_34 rfl rfl dX5_turnOver_1 ?_
  refine z_iload_n C 1 dX5_turnOver_4 rfl ?_
  refine z_ishr C (sh / z_p2 k) dX5_turnOver_5 (z_shr (by omega) (by omega)) ?_
  refine z_iconst C 1 dX5_turnOver_6 ?_
  refine z_iand C (z_bit sh k) dX5_turnOver_7 (z_and1 ⟨Int.ediv_nonneg hsh.1 (Int.le_of_lt (z_p2_pos k)), by have := Int.ediv_le_self (z_p2 k) hsh.1; omega⟩) ?_
  refine z_iload_n C 2 dX5_turnOver_8 rfl ?_
  refine z_iadd C dX5_turnOver_9 ?_
  refine z_istore_n C [(3, .int (z_I ((z_bit sh k) + x))), (0, .ref hW), (1, .int (z_I k)), (2, .int (z_I x))] dX5_turnOver_10 (by decide) rfl ?_
  refine z_aload_n C 1 dX5_turnOver_11 rfl ?_
  refine z_aload_n C 1 dX5_turnOver_12 rfl ?_
  refine z_get C 0 2 zi_X5_turnOver_X5 rfl rfl (by decide) zl_X5_turnOver_34 rfl rfl dX5_turnOver_13 ?_
  refine z_iconst C 1 dX5_turnOver_16 ?_
  refine z_iload_n C 2 dX5_turnOver_17 rfl ?_
  refine z_ishl C (z_p2 k) dX5_turnOver_18 (z_shl1 (by omega)) ?_
  refine z_iconst C (-1) dX5_turnOver_19 ?_
  refine z_ixor C (-1 - z_p2 k) dX5_turnOver_20 (z_xorm (by omega)) ?_
  refine z_iand C (sh - z_bit sh k * z_p2 k) dX5_turnOver_21 (z_andm (by omega) (by omega)) ?_
  refine z_iload_n C 0 dX5_turnOver_22 rfl ?_
  refine z_iconst C 1 dX5_turnOver_23 ?_
  refine z_iand C ((z_bit sh k + x) % 2) dX5_turnOver_24 (z_and1 (by omega)) ?_
  refine z_iload_n C 2 dX5_turnOver_25 rfl ?_
  refine z_ishl C ((z_bit sh k + x) % 2 * z_p2 k) dX5_turnOver_26 (z_shlb (by omega) (by omega)) ?_
  refine z_ior C (sh - z_bit sh k * z_p2 k + (z_bit sh k + x) % 2 * z_p2 k) dX5_turnOver_27 (z_orb (by omega) (by omega) (by omega)) ?_
  refine z_put C 0 2 [(hW, .inr (5, [.int (z_I t), .int (z_I st), .int (z_I (sh - z_bit sh k * z_p2 k + (z_bit sh k + x) % 2 * z_p2 k)), .int (z_I ow), .ref aD, .ref aN, .ref aU])), (aD, z_ai cI 5 dl), (aN, z_ai cI 5 dn), (aU, z_ai cI 105 du)] zi_X5_turnOver_X5 tyX5_ok nmX5 rfl rfl (by decide) zl_X5_turnOver_34 rfl rfl rfl rfl (Nat.le_of_ble_eq_true rfl) rfl dX5_turnOver_28 ?_
  refine z_aload_n C 1 dX5_turnOver_31 rfl ?_
  refine z_get C 0 5 zi_X5_turnOver_X5 rfl rfl (by decide) zl_X5_turnOver_19 rfl rfl dX5_turnOver_32 ?_
  refine z_iload_n C 2 dX5_turnOver_35 rfl ?_
  refine z_dup2 C dX5_turnOver_36 rfl rfl ?_
  refine z_iald C 2 0 rfl rfl (by decide) (by omega) dX5_turnOver_37 ?_
  refine z_iload_n C 3 dX5_turnOver_38 rfl ?_
  refine z_iadd C dX5_turnOver_39 ?_
  refine z_iast C 2 0 [(hW, .inr (5, [.int (z_I t), .int (z_I st), .int (z_I (sh - z_bit sh k * z_p2 k + (z_bit sh k + x) % 2 * z_p2 k)), .int (z_I ow), .ref aD, .ref aN, .ref aU])), (aD, z_ai cI 5 dl), (aN, z_ai cI 5 (z_u dn k ((dn k) + x))), (aU, z_ai cI 105 du)] rfl rfl (by decide) (by omega) rfl dX5_turnOver_40 ?_
  refine z_iload_n C 0 dX5_turnOver_41 rfl ?_
  refine z_iconst C 2 dX5_turnOver_42 ?_
  refine z_idiv C dX5_turnOver_43 (by omega) (by omega) ?_
  exact z_iret C hQ rfl (by first | rfl | omega | ((repeat' split) <;> omega)) dX5_turnOver_44
theorem zi_X5_turnDue_X5 : ∀ w ∈ u_ws RX5 TX5 7, w ∈ wsX5_turnDue := by decide +kernel
theorem zl_X5_turnDue_22 : Cond.fieldLink RX5 22 "RippleCounts$Wave" "due" "[I" ∈ wsX5_turnDue := by decide +kernel
theorem zl_X5_turnDue_31 : Cond.fieldLink RX5 31 "RippleCounts$Wave" "time" "I" ∈ wsX5_turnDue := by decide +kernel
theorem zl_X5_turnDue_37 : Cond.fieldLink RX5 37 "RippleCounts$Wave" "onTheirWay" "I" ∈ wsX5_turnDue := by decide +kernel
theorem zl_X5_turnDue_9 : Cond.fieldLink RX5 9 "RippleCounts$Wave" "stages" "I" ∈ wsX5_turnDue := by decide +kernel
theorem zd_X5_turnDue : yX5_turnDue.cls ≠ "java/lang/invoke/MethodHandle" ∧ yX5_turnDue.cls ≠ "java/lang/invoke/VarHandle" ∧ (parseMethodDescriptor yX5_turnDue.desc).map (fun d => d.parameters.length) = some 0 := by decide +kernel
set_option maxHeartbeats 4000000 in
set_option maxRecDepth 100000 in
theorem c_X5_turnDue (l : Launch) (D : va_G) (cI cZ cO : ClassId) (hW aD aN aU : Nat) (t st sh ow : Int) (dl dn du : Int → Int) (hst : 0 ≤ st ∧ st ≤ 5) (ht : 0 ≤ t ∧ t < 1000000) (hd : ∀ i : Int, 0 ≤ i → i < 5 → 1 ≤ dl i ∧ dl i ≤ 20) (hI : ∀ k : Int, 0 ≤ k → k ≤ st → (0 ≤ (z_it (z_tdS t st dl) (0, sh, ow, dn, du) k.toNat).2.1 ∧ (z_it (z_tdS t st dl) (0, sh, ow, dn, du) k.toNat).2.1 < 32) ∧ ∀ i : Int, 0 ≤ i → i < 105 → 0 ≤ (z_it (z_tdS t st dl) (0, sh, ow, dn, du) k.toNat).2.2.2.2 i ∧ (z_it (z_tdS t st dl) (0, sh, ow, dn, du) k.toNat).2.2.2.2 i < 1000000) : z_Mi l yX5_turnDue wsX5_turnDue 1 23 D (z_T cI cZ cO) [.ref hW] [(hW, .inr (5, [.int (z_I t), .int (z_I st), .int (z_I sh), .int (z_I ow), .ref aD, .ref aN, .ref aU])), (aD, z_ai cI 5 dl), (aN, z_ai cI 5 dn), (aU, z_ai cI 105 du)] [(hW, .inr (5, [.int (z_I t), .int (z_I st), .int (z_I ((z_it (z_tdS t st dl) (0, sh, ow, dn, du) st.toNat).2.1)), .int (z_I ((z_it (z_tdS t st dl) (0, sh, ow, dn, du) st.toNat).2.2.1)), .ref aD, .ref aN, .ref aU])), (aD, z_ai cI 5 dl), (aN, z_ai cI 5 ((z_it (z_tdS t st dl) (0, sh, ow, dn, du) st.toNat).2.2.2.1)), (aU, z_ai cI 105 ((z_it (z_tdS t st dl) (0, sh, ow, dn, du) st.toNat).2.2.2.2))] ((z_it (z_tdS t st dl) (0, sh, ow, dn, du) st.toNat).1) := by
  refine z_Mi_of (cc := cX5_turnDue) (nL := 6) (ret := (some .int)) (by decide +kernel) rfl (Nat.le_of_ble_eq_true rfl) ?_
  intro p e s m args below meth c A Q C hQ
  change z_V p l e { frames := 1, cells := 0, slots := 0, locals := 23 } s m args below meth c D A 6 0 0 Q [(hW, .inr (5, [.int (z_I t), .int (z_I st), .int (z_I sh), .int (z_I ow), .ref aD, .ref aN, .ref aU])), (aD, z_ai cI 5 dl), (aN, z_ai cI 5 dn), (aU, z_ai cI 105 du)] 0 [(0, .ref hW)] []
  refine z_iconst C 0 dX5_turnDue_0 ?_
  refine z_istore_n C [(1, .int (z_I 0)), (0, .ref hW)] dX5_turnDue_1 (by decide) rfl ?_
  refine z_iconst C 0 dX5_turnDue_2 ?_
  refine z_istore_n C [(2, .int (z_I 0)), (1, .int (z_I 0)), (0, .ref hW)] dX5_turnDue_3 (by decide) rfl ?_
  have loop4 : ∀ (zn : Nat) (k : Int) (r : z_R), 0 ≤ k ∧ k ≤ st → r = z_it (z_tdS t st dl) (0, sh, ow, dn, du) k.toNat → (st - k) < (zn : Int) → z_V p l e { frames := 1, cells := 0, slots := 0, locals := 23 } s m args below meth c D A 6 0 0 Q [(hW, .inr (5, [.int (z_I t), .int (z_I st), .int (z_I r.2.1), .int (z_I r.2.2.1), .ref aD, .ref aN, .ref aU])), (aD, z_ai cI 5 dl), (aN, z_ai cI 5 r.2.2.2.1), (aU, z_ai cI 105 r.2.2.2.2)] 4 [(2, .int (z_I k)), (1, .int (z_I r.1)), (0, .ref hW)] [] := by
    intro zn
    induction zn with
    | zero => intro k r hk hr hm; exact absurd hm (by omega)
    | succ zn ih =>
      intro k r hk hr hm
      have hJ := hI k hk.1 hk.2
      rw [← hr] at hJ
      have hsh := hJ.1
      refine z_iload_n C 0 dX5_turnDue_4 rfl ?_
      refine z_aload_n C 2 dX5_turnDue_5 rfl ?_
      refine z_get C 0 1 zi_X5_turnDue_X5 rfl rfl (by decide) zl_X5_turnDue_9 rfl rfl dX5_turnDue_6 ?_
      refine z_icmp_ge C 95 dX5_turnDue_9 (by decide) (by omega) (by omega) (fun hc1 => ?_) (fun hc1 => ?_)
      · skip
        obtain rfl : k = st := by omega
        subst hr
        refine z_iload_n C 1 dX5_turnDue_95 rfl ?_
        exact z_iret C hQ rfl rfl dX5_turnDue_96
      · skip
        have hM := hJ.2 (k * 21 + t % 21) (by omega) (by omega)
        have hdk := hd k hk.1 (by omega)
        have hbb := z_bit01 r.2.1 k
        refine z_iload_n C 0 dX5_turnDue_12 rfl ?_
        refine z_bipush C 21 dX5_turnDue_13 (by decide) ?_
        refine z_imul C dX5_turnDue_15 ?_
        refine z_aload_n C 2 dX5_turnDue_16 rfl ?_
        refine z_get C 0 0 zi_X5_turnDue_X5 rfl rfl (by decide) zl_X5_turnDue_31 rfl rfl dX5_turnDue_17 ?_
        refine z_bipush C 21 dX5_turnDue_20 (by decide) ?_
        refine z_irem C dX5_turnDue_22 (by omega) (by omega) ?_
        refine z_iadd C dX5_turnDue_23 ?_
        refine z_istore_n C [(3, .int (z_I ((k * 21) + (t % 21)))), (2, .int (z_I k)), (1, .int (z_I r.1)), (0, .ref hW)] dX5_turnDue_24 (by decide) rfl ?_
        refine z_aload_n C 3 dX5_turnDue_25 rfl ?_
        refine z_get C 0 6 zi_X5_turnDue_X5 rfl rfl (by decide) zl_X5_turnDue_22 rfl rfl dX5_turnDue_26 ?_
        refine z_iload_n C 0 dX5_turnDue_29 rfl ?_
        refine z_iald C 3 0 rfl rfl (by decide) (by omega) dX5_turnDue_30 ?_
        refine z_istore C [(4, .int (z_I (r.2.2.2.2 ((k * 21) + (t % 21))))), (3, .int (z_I ((k * 21) + (t % 21)))), (2, .int (z_I k)), (1, .int (z_I r.1)), (0, .ref hW)] dX5_turnDue_31 (by decide) rfl ?_
        refine z_iload C 0 dX5_turnDue_33 rfl ?_
        refine z_if_le C 89 dX5_turnDue_35 (by decide) (by omega) (fun hc2 => ?_) (fun hc2 => ?_)
        · skip
          have hm1 : ¬ 0 < r.2.2.2.2 (k * 21 + t % 21) := by omega
          refine z_iinc C 2 [(2, .int (z_I (k + 1))), (4, .int (z_I (r.2.2.2.2 ((k * 21) + (t % 21))))), (3, .int (z_I ((k * 21) + (t % 21)))), (1, .int (z_I r.1)), (0, .ref hW)] dX5_turnDue_89 rfl (by decide) rfl ?_
          refine z_goto C 4 dX5_turnDue_92 (by decide) ?_
          refine z_ws [(hW, .inr (5, [.int (z_I t), .int (z_I st), .int (z_I ((z_tdS t st dl k r).2.1)), .int (z_I ((z_tdS t st dl k r).2.2.1)), .ref aD, .ref aN, .ref aU])), (aD, z_ai cI 5 dl), (aN, z_ai cI 5 ((z_tdS t st dl k r).2.2.2.1)), (aU, z_ai cI 105 ((z_tdS t st dl k r).2.2.2.2))] (by rw [z_tdS_3 hm1]) ?_
          refine z_lsub [(2, .int (z_I (k + 1))), (1, .int (z_I r.1)), (0, .ref hW)] [0, 3, 4] rfl ?_
          refine z_lveq [(2, .int (z_I (k + 1))), (1, .int (z_I ((z_tdS t st dl k r).1))), (0, .ref hW)] (by first | rw [z_tdS_1 hm1 hm2] | rw [z_tdS_2 hm1 hm2] | rw [z_tdS_3 hm1]) ?_
          exact ih (k + 1) (z_tdS t st dl k r) (by first | assumption | omega) (by rw [hr, z_it_next _ _ hk.1]) (by omega)
        · skip
          have hm1 : 0 < r.2.2.2.2 (k * 21 + t % 21) := by omega
          refine z_aload_n C 4 dX5_turnDue_38 rfl ?_
          refine z_get C 0 6 zi_X5_turnDue_X5 rfl rfl (by decide) zl_X5_turnDue_22 rfl rfl dX5_turnDue_39 ?_
          refine z_iload_n C 1 dX5_turnDue_42 rfl ?_
          refine z_iconst C 0 dX5_turnDue_43 ?_
          refine z_iast C 3 0 [(hW, .inr (5, [.int (z_I t), .int (z_I st), .int (z_I r.2.1), .int (z_I r.2.2.1), .ref aD, .ref aN, .ref aU])), (aD, z_ai cI 5 dl), (aN, z_ai cI 5 r.2.2.2.1), (aU, z_ai cI 105 (z_u r.2.2.2.2 ((k * 21) + (t % 21)) 0))] rfl rfl (by decide) (by omega) rfl dX5_turnDue_44 ?_
          refine z_aload_n C 4 dX5_turnDue_45 rfl ?_
          refine z_dup C dX5_turnDue_46 rfl ?_
          refine z_get C 0 3 zi_X5_turnDue_X5 rfl rfl (by decide) zl_X5_turnDue_37 rfl rfl dX5_turnDue_47 ?_
          refine z_iload C 0 dX5_turnDue_50 rfl ?_
          refine z_isub C dX5_turnDue_52 ?_
          refine z_put C 0 3 [(hW, .inr (5, [.int (z_I t), .int (z_I st), .int (z_I r.2.1), .int (z_I (r.2.2.1 - (r.2.2.2.2 ((k * 21) + (t % 21))))), .ref aD, .ref aN, .ref aU])), (aD, z_ai cI 5 dl), (aN, z_ai cI 5 r.2.2.2.1), (aU, z_ai cI 105 (z_u r.2.2.2.2 ((k * 21) + (t % 21)) 0))] zi_X5_turnDue_X5 tyX5_ok nmX5 rfl rfl (by decide) zl_X5_turnDue_37 rfl rfl rfl rfl (Nat.le_of_ble_eq_true rfl) rfl dX5_turnDue_53 ?_
          refine z_iload_n C 3 dX5_turnDue_56 rfl ?_
          refine z_iload C 0 dX5_turnDue_57 rfl ?_
          refine z_iadd C dX5_turnDue_59 ?_
          refine z_istore_n C [(1, .int (z_I (r.1 + (r.2.2.2.2 ((k * 21) + (t % 21)))))), (4, .int (z_I (r.2.2.2.2 ((k * 21) + (t % 21))))), (3, .int (z_I ((k * 21) + (t % 21)))), (2, .int (z_I k)), (0, .ref hW)] dX5_turnDue_60 (by decide) rfl ?_
          refine z_aload_n C 4 dX5_turnDue_61 rfl ?_
          refine z_iload_n C 3 dX5_turnDue_62 rfl ?_
          refine z_iload C 1 dX5_turnDue_63 rfl ?_
          refine z_callVi C [0, 1, 2, 3] [(hW, .inr (5, [.int (z_I t), .int (z_I st), .int (z_I (r.2.1 - z_bit r.2.1 k * z_p2 k + (z_bit r.2.1 k + (r.2.2.2.2 ((k * 21) + (t % 21)))) % 2 * z_p2 k)), .int (z_I (r.2.2.1 - (r.2.2.2.2 ((k * 21) + (t % 21))))), .ref aD, .ref aN, .ref aU])), (aD, z_ai cI 5 dl), (aN, z_ai cI 5 (z_u r.2.2.2.1 k (r.2.2.2.1 k + (r.2.2.2.2 ((k * 21) + (t % 21)))))), (aU, z_ai cI 105 (z_u r.2.2.2.2 ((k * 21) + (t % 21)) 0))] [.int (z_I k), .int (z_I (r.2.2.2.2 ((k * 21) + (t % 21))))] [] (c_X5_turnOver l D cI cZ cO hW aD aN aU t st r.2.1 (r.2.2.1 - (r.2.2.2.2 ((k * 21) + (t % 21)))) dl r.2.2.2.1 (z_u r.2.2.2.2 ((k * 21) + (t % 21)) 0) k (r.2.2.2.2 ((k * 21) + (t % 21))) (by first | assumption | omega) (by first | assumption | omega) (by first | assumption | omega)) gX5_turnDue_X5_turnOver rfl zd_X5_turnOver rfl (by decide) rfl rfl rfl (by decide) rfl rfl rfl (by decide) (by decide) dX5_turnDue_65 ?_
          refine z_istore C [(5, .int (z_I ((z_bit r.2.1 k + (r.2.2.2.2 ((k * 21) + (t % 21)))) / 2))), (1, .int (z_I (r.1 + (r.2.2.2.2 ((k * 21) + (t % 21)))))), (4, .int (z_I (r.2.2.2.2 ((k * 21) + (t % 21))))), (3, .int (z_I ((k * 21) + (t % 21)))), (2, .int (z_I k)), (0, .ref hW)] dX5_turnDue_68 (by decide) rfl ?_
          refine z_iload_n C 4 dX5_turnDue_70 rfl ?_
          refine z_iconst C 1 dX5_turnDue_71 ?_
          refine z_iadd C dX5_turnDue_72 ?_
          refine z_aload_n C 5 dX5_turnDue_73 rfl ?_
          refine z_get C 0 1 zi_X5_turnDue_X5 rfl rfl (by decide) zl_X5_turnDue_9 rfl rfl dX5_turnDue_74 ?_
          refine z_icmp_ge C 89 dX5_turnDue_77 (by decide) (by omega) (by omega) (fun hc3 => ?_) (fun hc3 => ?_)
          · skip
            have hm2 : ¬ k + 1 < st := by omega
            refine z_iinc C 4 [(2, .int (z_I (k + 1))), (5, .int (z_I ((z_bit r.2.1 k + (r.2.2.2.2 ((k * 21) + (t % 21)))) / 2))), (1, .int (z_I (r.1 + (r.2.2.2.2 ((k * 21) + (t % 21)))))), (4, .int (z_I (r.2.2.2.2 ((k * 21) + (t % 21))))), (3, .int (z_I ((k * 21) + (t % 21)))), (0, .ref hW)] dX5_turnDue_89 rfl (by decide) rfl ?_
            refine z_goto C 4 dX5_turnDue_92 (by decide) ?_
            refine z_ws [(hW, .inr (5, [.int (z_I t), .int (z_I st), .int (z_I ((z_tdS t st dl k r).2.1)), .int (z_I ((z_tdS t st dl k r).2.2.1)), .ref aD, .ref aN, .ref aU])), (aD, z_ai cI 5 dl), (aN, z_ai cI 5 ((z_tdS t st dl k r).2.2.2.1)), (aU, z_ai cI 105 ((z_tdS t st dl k r).2.2.2.2))] (by rw [z_tdS_2 hm1 hm2]) ?_
            refine z_lsub [(2, .int (z_I (k + 1))), (1, .int (z_I (r.1 + (r.2.2.2.2 ((k * 21) + (t % 21)))))), (0, .ref hW)] [0, 2, 5] rfl ?_
            refine z_lveq [(2, .int (z_I (k + 1))), (1, .int (z_I ((z_tdS t st dl k r).1))), (0, .ref hW)] (by first | rw [z_tdS_1 hm1 hm2] | rw [z_tdS_2 hm1 hm2] | rw [z_tdS_3 hm1]) ?_
            exact ih (k + 1) (z_tdS t st dl k r) (by first | assumption | omega) (by rw [hr, z_it_next _ _ hk.1]) (by omega)
          · skip
            have hm2 : k + 1 < st := by omega
            have hdk1 := hd (k + 1) (by omega) (by omega)
            refine z_aload_n C 5 dX5_turnDue_80 rfl ?_
            refine z_iload_n C 4 dX5_turnDue_81 rfl ?_
            refine z_iconst C 1 dX5_turnDue_82 ?_
            refine z_iadd C dX5_turnDue_83 ?_
            refine z_iload C 0 dX5_turnDue_84 rfl ?_
            refine z_callVv C [0, 1, 2, 3] [(hW, .inr (5, [.int (z_I t), .int (z_I st), .int (z_I (r.2.1 - z_bit r.2.1 k * z_p2 k + (z_bit r.2.1 k + (r.2.2.2.2 ((k * 21) + (t % 21)))) % 2 * z_p2 k)), .int (z_I ((r.2.2.1 - (r.2.2.2.2 ((k * 21) + (t % 21)))) + ((z_bit r.2.1 k + (r.2.2.2.2 ((k * 21) + (t % 21)))) / 2))), .ref aD, .ref aN, .ref aU])), (aD, z_ai cI 5 dl), (aN, z_ai cI 5 (z_u r.2.2.2.1 k (r.2.2.2.1 k + (r.2.2.2.2 ((k * 21) + (t % 21)))))), (aU, z_ai cI 105 (z_bg t dl (k + 1) ((z_bit r.2.1 k + (r.2.2.2.2 ((k * 21) + (t % 21)))) / 2) (z_u r.2.2.2.2 ((k * 21) + (t % 21)) 0)))] [.int (z_I (k + 1)), .int (z_I ((z_bit r.2.1 k + (r.2.2.2.2 ((k * 21) + (t % 21)))) / 2))] [] (c_X5_begin l D cI cZ cO hW aD aN aU t st (r.2.1 - z_bit r.2.1 k * z_p2 k + (z_bit r.2.1 k + (r.2.2.2.2 ((k * 21) + (t % 21)))) % 2 * z_p2 k) (r.2.2.1 - (r.2.2.2.2 ((k * 21) + (t % 21)))) dl (z_u r.2.2.2.1 k (r.2.2.2.1 k + (r.2.2.2.2 ((k * 21) + (t % 21))))) (z_u r.2.2.2.2 ((k * 21) + (t % 21)) 0) (k + 1) ((z_bit r.2.1 k + (r.2.2.2.2 ((k * 21) + (t % 21)))) / 2) (by first | assumption | omega) (by first | assumption | omega) (by first | assumption | omega)) gX5_turnDue_X5_begin rfl zd_X5_begin rfl (by decide) rfl rfl rfl (by decide) rfl rfl rfl (by decide) (by decide) dX5_turnDue_86 ?_
            refine z_iinc C 4 [(2, .int (z_I (k + 1))), (5, .int (z_I ((z_bit r.2.1 k + (r.2.2.2.2 ((k * 21) + (t % 21)))) / 2))), (1, .int (z_I (r.1 + (r.2.2.2.2 ((k * 21) + (t % 21)))))), (4, .int (z_I (r.2.2.2.2 ((k * 21) + (t % 21))))), (3, .int (z_I ((k * 21) + (t % 21)))), (0, .ref hW)] dX5_turnDue_89 rfl (by decide) rfl ?_
            refine z_goto C 4 dX5_turnDue_92 (by decide) ?_
            refine z_ws [(hW, .inr (5, [.int (z_I t), .int (z_I st), .int (z_I ((z_tdS t st dl k r).2.1)), .int (z_I ((z_tdS t st dl k r).2.2.1)), .ref aD, .ref aN, .ref aU])), (aD, z_ai cI 5 dl), (aN, z_ai cI 5 ((z_tdS t st dl k r).2.2.2.1)), (aU, z_ai cI 105 ((z_tdS t st dl k r).2.2.2.2))] (by rw [z_tdS_1 hm1 hm2]) ?_
            refine z_lsub [(2, .int (z_I (k + 1))), (1, .int (z_I (r.1 + (r.2.2.2.2 ((k * 21) + (t % 21)))))), (0, .ref hW)] [0, 2, 5] rfl ?_
            refine z_lveq [(2, .int (z_I (k + 1))), (1, .int (z_I ((z_tdS t st dl k r).1))), (0, .ref hW)] (by first | rw [z_tdS_1 hm1 hm2] | rw [z_tdS_2 hm1 hm2] | rw [z_tdS_3 hm1]) ?_
            exact ih (k + 1) (z_tdS t st dl k r) (by first | assumption | omega) (by rw [hr, z_it_next _ _ hk.1]) (by omega)
  refine z_lveq [(2, .int (z_I 0)), (1, .int (z_I ((0, sh, ow, dn, du).1))), (0, .ref hW)] rfl ?_
  exact loop4 (st.toNat + 1) 0 (0, sh, ow, dn, du) (by first | assumption | omega) rfl (by omega)
theorem zi_X5_nanosecond_X5 : ∀ w ∈ u_ws RX5 TX5 7, w ∈ wsX5_nanosecond := by decide +kernel
theorem zl_X5_nanosecond_31 : Cond.fieldLink RX5 31 "RippleCounts$Wave" "time" "I" ∈ wsX5_nanosecond := by decide +kernel
theorem zd_X5_nanosecond : yX5_nanosecond.cls ≠ "java/lang/invoke/MethodHandle" ∧ yX5_nanosecond.cls ≠ "java/lang/invoke/VarHandle" ∧ (parseMethodDescriptor yX5_nanosecond.desc).map (fun d => d.parameters.length) = some 0 := by decide +kernel
set_option maxHeartbeats 4000000 in
set_option maxRecDepth 100000 in
theorem c_X5_nanosecond (l : Launch) (D : va_G) (cI cZ cO : ClassId) (hW aD aN aU : Nat) (t st sh ow : Int) (dl dn du : Int → Int) (hst : 0 ≤ st ∧ st ≤ 5) (ht : 0 ≤ t ∧ t < 1000000) (hd : ∀ i : Int, 0 ≤ i → i < 5 → 1 ≤ dl i ∧ dl i ≤ 20) (hI : ∀ k : Int, 0 ≤ k → k ≤ st → (0 ≤ (z_it (z_tdS t st dl) (0, sh, ow, dn, du) k.toNat).2.1 ∧ (z_it (z_tdS t st dl) (0, sh, ow, dn, du) k.toNat).2.1 < 32) ∧ ∀ i : Int, 0 ≤ i → i < 105 → 0 ≤ (z_it (z_tdS t st dl) (0, sh, ow, dn, du) k.toNat).2.2.2.2 i ∧ (z_it (z_tdS t st dl) (0, sh, ow, dn, du) k.toNat).2.2.2.2 i < 1000000) : z_Mv l yX5_nanosecond wsX5_nanosecond 2 48 D (z_T cI cZ cO) [.ref hW] [(hW, .inr (5, [.int (z_I t), .int (z_I st), .int (z_I sh), .int (z_I ow), .ref aD, .ref aN, .ref aU])), (aD, z_ai cI 5 dl), (aN, z_ai cI 5 dn), (aU, z_ai cI 105 du)] [(hW, .inr (5, [.int (z_I (t + 1)), .int (z_I st), .int (z_I ((z_it (z_tdS t st dl) (0, sh, ow, dn, du) st.toNat).2.1)), .int (z_I ((z_it (z_tdS t st dl) (0, sh, ow, dn, du) st.toNat).2.2.1)), .ref aD, .ref aN, .ref aU])), (aD, z_ai cI 5 dl), (aN, z_ai cI 5 ((z_it (z_tdS t st dl) (0, sh, ow, dn, du) st.toNat).2.2.2.1)), (aU, z_ai cI 105 ((z_it (z_tdS t st dl) (0, sh, ow, dn, du) st.toNat).2.2.2.2))] := by
  refine z_Mv_of (cc := cX5_nanosecond) (nL := 1) (ret := none) (by decide +kernel) rfl (Nat.le_of_ble_eq_true rfl) ?_
  intro p e s m args below meth c A Q C hQ
  change z_V p l e { frames := 2, cells := 0, slots := 0, locals := 48 } s m args below meth c D A 1 0 0 Q [(hW, .inr (5, [.int (z_I t), .int (z_I st), .int (z_I sh), .int (z_I ow), .ref aD, .ref aN, .ref aU])), (aD, z_ai cI 5 dl), (aN, z_ai cI 5 dn), (aU, z_ai cI 105 du)] 0 [(0, .ref hW)] []
  refine z_aload_n C 0 dX5_nanosecond_0 rfl ?_
  refine z_callVi C [0, 1, 2, 3] [(hW, .inr (5, [.int (z_I t), .int (z_I st), .int (z_I ((z_it (z_tdS t st dl) (0, sh, ow, dn, du) st.toNat).2.1)), .int (z_I ((z_it (z_tdS t st dl) (0, sh, ow, dn, du) st.toNat).2.2.1)), .ref aD, .ref aN, .ref aU])), (aD, z_ai cI 5 dl), (aN, z_ai cI 5 ((z_it (z_tdS t st dl) (0, sh, ow, dn, du) st.toNat).2.2.2.1)), (aU, z_ai cI 105 ((z_it (z_tdS t st dl) (0, sh, ow, dn, du) st.toNat).2.2.2.2))] [] [] (c_X5_turnDue l D cI cZ cO hW aD aN aU t st sh ow dl dn du (by first | assumption | omega) (by first | assumption | omega) (by first | assumption | omega) (by first | assumption | omega)) gX5_nanosecond_X5_turnDue rfl zd_X5_turnDue rfl (by decide) rfl rfl rfl (by decide) rfl rfl rfl (by decide) (by decide) dX5_nanosecond_1 ?_
  refine z_pop C dX5_nanosecond_4 rfl ?_
  refine z_aload_n C 0 dX5_nanosecond_5 rfl ?_
  refine z_dup C dX5_nanosecond_6 rfl ?_
  refine z_get C 0 0 zi_X5_nanosecond_X5 rfl rfl (by decide) zl_X5_nanosecond_31 rfl rfl dX5_nanosecond_7 ?_
  refine z_iconst C 1 dX5_nanosecond_10 ?_
  refine z_iadd C dX5_nanosecond_11 ?_
  refine z_put C 0 0 [(hW, .inr (5, [.int (z_I (t + 1)), .int (z_I st), .int (z_I ((z_it (z_tdS t st dl) (0, sh, ow, dn, du) st.toNat).2.1)), .int (z_I ((z_it (z_tdS t st dl) (0, sh, ow, dn, du) st.toNat).2.2.1)), .ref aD, .ref aN, .ref aU])), (aD, z_ai cI 5 dl), (aN, z_ai cI 5 ((z_it (z_tdS t st dl) (0, sh, ow, dn, du) st.toNat).2.2.2.1)), (aU, z_ai cI 105 ((z_it (z_tdS t st dl) (0, sh, ow, dn, du) st.toNat).2.2.2.2))] zi_X5_nanosecond_X5 tyX5_ok nmX5 rfl rfl (by decide) zl_X5_nanosecond_31 rfl rfl rfl rfl (Nat.le_of_ble_eq_true rfl) rfl dX5_nanosecond_12 ?_
  exact z_vret C hQ rfl dX5_nanosecond_15
theorem zi_X5_onTheirWayIn_X5 : ∀ w ∈ u_ws RX5 TX5 7, w ∈ wsX5_onTheirWayIn := by decide +kernel
theorem zl_X5_onTheirWayIn_22 : Cond.fieldLink RX5 22 "RippleCounts$Wave" "due" "[I" ∈ wsX5_onTheirWayIn := by decide +kernel
theorem zd_X5_onTheirWayIn : yX5_onTheirWayIn.cls ≠ "java/lang/invoke/MethodHandle" ∧ yX5_onTheirWayIn.cls ≠ "java/lang/invoke/VarHandle" ∧ (parseMethodDescriptor yX5_onTheirWayIn.desc).map (fun d => d.parameters.length) = some 1 := by decide +kernel
set_option maxHeartbeats 4000000 in
set_option maxRecDepth 100000 in
theorem c_X5_onTheirWayIn (l : Launch) (D : va_G) (cI cZ cO : ClassId) (hW aD aN aU : Nat) (t st sh ow : Int) (dl dn du : Int → Int) (k : Int) (hk : 0 ≤ k ∧ k < 5) : z_Mi l yX5_onTheirWayIn wsX5_onTheirWayIn 0 0 D (z_T cI cZ cO) [.ref hW, .int (z_I k)] [(hW, .inr (5, [.int (z_I t), .int (z_I st), .int (z_I sh), .int (z_I ow), .ref aD, .ref aN, .ref aU])), (aD, z_ai cI 5 dl), (aN, z_ai cI 5 dn), (aU, z_ai cI 105 du)] [(hW, .inr (5, [.int (z_I t), .int (z_I st), .int (z_I sh), .int (z_I ow), .ref aD, .ref aN, .ref aU])), (aD, z_ai cI 5 dl), (aN, z_ai cI 5 dn), (aU, z_ai cI 105 du)] (z_it (fun j a => a + du (k * 21 + j)) 0 21) := by
  refine z_Mi_of (cc := cX5_onTheirWayIn) (nL := 4) (ret := (some .int)) (by decide +kernel) rfl (Nat.le_of_ble_eq_true rfl) ?_
  intro p e s m args below meth c A Q C hQ
  change z_V p l e { frames := 0, cells := 0, slots := 0, locals := 0 } s m args below meth c D A 4 0 0 Q [(hW, .inr (5, [.int (z_I t), .int (z_I st), .int (z_I sh), .int (z_I ow), .ref aD, .ref aN, .ref aU])), (aD, z_ai cI 5 dl), (aN, z_ai cI 5 dn), (aU, z_ai cI 105 du)] 0 [(0, .ref hW), (1, .int (z_I k))] []
  refine z_iconst C 0 dX5_onTheirWayIn_0 ?_
  refine z_istore_n C [(2, .int (z_I 0)), (0, .ref hW), (1, .int (z_I k))] dX5_onTheirWayIn_1 (by decide) rfl ?_
  refine z_iconst C 0 dX5_onTheirWayIn_2 ?_
  refine z_istore_n C [(3, .int (z_I 0)), (2, .int (z_I 0)), (0, .ref hW), (1, .int (z_I k))] dX5_onTheirWayIn_3 (by decide) rfl ?_
  have loop4 : ∀ (zn : Nat) (j : Int) (a : Int), 0 ≤ j ∧ j ≤ 21 → a = z_it (fun j a => a + du (k * 21 + j)) 0 j.toNat → (21 - j) < (zn : Int) → z_V p l e { frames := 0, cells := 0, slots := 0, locals := 0 } s m args below meth c D A 4 0 0 Q [(hW, .inr (5, [.int (z_I t), .int (z_I st), .int (z_I sh), .int (z_I ow), .ref aD, .ref aN, .ref aU])), (aD, z_ai cI 5 dl), (aN, z_ai cI 5 dn), (aU, z_ai cI 105 du)] 4 [(3, .int (z_I j)), (2, .int (z_I a)), (0, .ref hW), (1, .int (z_I k))] [] := by
    intro zn
    induction zn with
    | zero => intro j a hj ha hm; exact absurd hm (by omega)
    | succ zn ih =>
      intro j a hj ha hm
      refine z_iload_n C 0 dX5_onTheirWayIn_4 rfl ?_
      refine z_bipush C 21 dX5_onTheirWayIn_5 (by decide) ?_
      refine z_icmp_ge C 30 dX5_onTheirWayIn_7 (by decide) (by omega) (by omega) (fun hc1 => ?_) (fun hc1 => ?_)
      · skip
        obtain rfl : j = 21 := by omega
        refine z_iload_n C 1 dX5_onTheirWayIn_30 rfl ?_
        exact z_iret C hQ rfl ha dX5_onTheirWayIn_31
      · skip
        refine z_iload_n C 1 dX5_onTheirWayIn_10 rfl ?_
        refine z_aload_n C 2 dX5_onTheirWayIn_11 rfl ?_
        refine z_get C 0 6 zi_X5_onTheirWayIn_X5 rfl rfl (by decide) zl_X5_onTheirWayIn_22 rfl rfl dX5_onTheirWayIn_12 ?_
        refine z_iload_n C 3 dX5_onTheirWayIn_15 rfl ?_
        refine z_bipush C 21 dX5_onTheirWayIn_16 (by decide) ?_
        refine z_imul C dX5_onTheirWayIn_18 ?_
        refine z_iload_n C 0 dX5_onTheirWayIn_19 rfl ?_
        refine z_iadd C dX5_onTheirWayIn_20 ?_
        refine z_iald C 3 0 rfl rfl (by decide) (by omega) dX5_onTheirWayIn_21 ?_
        refine z_iadd C dX5_onTheirWayIn_22 ?_
        refine z_istore_n C [(2, .int (z_I (a + (du ((k * 21) + j))))), (3, .int (z_I j)), (0, .ref hW), (1, .int (z_I k))] dX5_onTheirWayIn_23 (by decide) rfl ?_
        refine z_iinc C 1 [(3, .int (z_I (j + 1))), (2, .int (z_I (a + (du ((k * 21) + j))))), (0, .ref hW), (1, .int (z_I k))] dX5_onTheirWayIn_24 rfl (by decide) rfl ?_
        refine z_goto C 4 dX5_onTheirWayIn_27 (by decide) ?_
        exact ih (j + 1) (a + (du ((k * 21) + j))) (by first | assumption | omega) (by rw [z_it_next _ _ hj.1, ← ha]) (by omega)
  exact loop4 22 0 0 (by first | assumption | omega) rfl (by omega)
theorem zi_X5_untilNext_X5 : ∀ w ∈ u_ws RX5 TX5 7, w ∈ wsX5_untilNext := by decide +kernel
theorem zl_X5_untilNext_22 : Cond.fieldLink RX5 22 "RippleCounts$Wave" "due" "[I" ∈ wsX5_untilNext := by decide +kernel
theorem zl_X5_untilNext_31 : Cond.fieldLink RX5 31 "RippleCounts$Wave" "time" "I" ∈ wsX5_untilNext := by decide +kernel
theorem zd_X5_untilNext : yX5_untilNext.cls ≠ "java/lang/invoke/MethodHandle" ∧ yX5_untilNext.cls ≠ "java/lang/invoke/VarHandle" ∧ (parseMethodDescriptor yX5_untilNext.desc).map (fun d => d.parameters.length) = some 1 := by decide +kernel
set_option maxHeartbeats 4000000 in
set_option maxRecDepth 100000 in
theorem c_X5_untilNext (l : Launch) (D : va_G) (cI cZ cO : ClassId) (hW aD aN aU : Nat) (t st sh ow : Int) (dl dn du : Int → Int) (k : Int) (hk : 0 ≤ k ∧ k < 5) (ht : 0 ≤ t ∧ t < 1000000) (hu : ∀ i : Int, 0 ≤ i → i < 105 → 0 ≤ du i ∧ du i < 1000000) : z_Mi l yX5_untilNext wsX5_untilNext 0 0 D (z_T cI cZ cO) [.ref hW, .int (z_I k)] [(hW, .inr (5, [.int (z_I t), .int (z_I st), .int (z_I sh), .int (z_I ow), .ref aD, .ref aN, .ref aU])), (aD, z_ai cI 5 dl), (aN, z_ai cI 5 dn), (aU, z_ai cI 105 du)] [(hW, .inr (5, [.int (z_I t), .int (z_I st), .int (z_I sh), .int (z_I ow), .ref aD, .ref aN, .ref aU])), (aD, z_ai cI 5 dl), (aN, z_ai cI 5 dn), (aU, z_ai cI 105 du)] (z_fst (fun i => du (k * 21 + (t + i) % 21)) 0 21) := by
  refine z_Mi_of (cc := cX5_untilNext) (nL := 3) (ret := (some .int)) (by decide +kernel) rfl (Nat.le_of_ble_eq_true rfl) ?_
  intro p e s m args below meth c A Q C hQ
  change z_V p l e { frames := 0, cells := 0, slots := 0, locals := 0 } s m args below meth c D A 3 0 0 Q [(hW, .inr (5, [.int (z_I t), .int (z_I st), .int (z_I sh), .int (z_I ow), .ref aD, .ref aN, .ref aU])), (aD, z_ai cI 5 dl), (aN, z_ai cI 5 dn), (aU, z_ai cI 105 du)] 0 [(0, .ref hW), (1, .int (z_I k))] []
  refine z_iconst C 0 dX5_untilNext_0 ?_
  refine z_istore_n C [(2, .int (z_I 0)), (0, .ref hW), (1, .int (z_I k))] dX5_untilNext_1 (by decide) rfl ?_
  have loop2 : ∀ (zn : Nat) (j : Int), 0 ≤ j ∧ j ≤ 21 → z_fst (fun i => du (k * 21 + (t + i) % 21)) 0 21 = z_fst (fun i => du (k * 21 + (t + i) % 21)) j (21 - j).toNat → (21 - j) < (zn : Int) → z_V p l e { frames := 0, cells := 0, slots := 0, locals := 0 } s m args below meth c D A 3 0 0 Q [(hW, .inr (5, [.int (z_I t), .int (z_I st), .int (z_I sh), .int (z_I ow), .ref aD, .ref aN, .ref aU])), (aD, z_ai cI 5 dl), (aN, z_ai cI 5 dn), (aU, z_ai cI 105 du)] 2 [(2, .int (z_I j)), (0, .ref hW), (1, .int (z_I k))] [] := by
    intro zn
    induction zn with
    | zero => intro j hj ha hm; exact absurd hm (by omega)
    | succ zn ih =>
      intro j hj ha hm
      refine z_iload_n C 0 dX5_untilNext_2 rfl ?_
      refine z_bipush C 21 dX5_untilNext_3 (by decide) ?_
      refine z_icmp_ge C 38 dX5_untilNext_5 (by decide) (by omega) (by omega) (fun hc1 => ?_) (fun hc1 => ?_)
      · skip
        obtain rfl : j = 21 := by omega
        refine z_bipush C (-6) dX5_untilNext_38 (by decide) ?_
        exact z_iret C hQ rfl (by rw [ha]; rfl) dX5_untilNext_40
      · skip
        have hM := hu (k * 21 + (t + j) % 21) (by omega) (by omega)
        refine z_aload_n C 1 dX5_untilNext_8 rfl ?_
        refine z_get C 0 6 zi_X5_untilNext_X5 rfl rfl (by decide) zl_X5_untilNext_22 rfl rfl dX5_untilNext_9 ?_
        refine z_iload_n C 2 dX5_untilNext_12 rfl ?_
        refine z_bipush C 21 dX5_untilNext_13 (by decide) ?_
        refine z_imul C dX5_untilNext_15 ?_
        refine z_aload_n C 1 dX5_untilNext_16 rfl ?_
        refine z_get C 0 0 zi_X5_untilNext_X5 rfl rfl (by decide) zl_X5_untilNext_31 rfl rfl dX5_untilNext_17 ?_
        refine z_iload_n C 0 dX5_untilNext_20 rfl ?_
        refine z_iadd C dX5_untilNext_21 ?_
        refine z_bipush C 21 dX5_untilNext_22 (by decide) ?_
        refine z_irem C dX5_untilNext_24 (by omega) (by omega) ?_
        refine z_iadd C dX5_untilNext_25 ?_
        refine z_iald C 3 0 rfl rfl (by decide) (by omega) dX5_untilNext_26 ?_
        refine z_if_le C 32 dX5_untilNext_27 (by decide) (by omega) (fun hc2 => ?_) (fun hc2 => ?_)
        · skip
          have hc2n : ¬ 0 < (fun i => du (k * 21 + (t + i) % 21)) j := by show ¬ 0 < du (k * 21 + (t + j) % 21); omega
          refine z_iinc C 0 [(2, .int (z_I (j + 1))), (0, .ref hW), (1, .int (z_I k))] dX5_untilNext_32 rfl (by decide) rfl ?_
          refine z_goto C 2 dX5_untilNext_35 (by decide) ?_
          exact ih (j + 1) (by first | assumption | omega) (by rw [ha, z_fst_neg (f := fun i => du (k * 21 + (t + i) % 21)) (m := (21 - (j + 1)).toNat) (by omega) hc2n]) (by omega)
        · skip
          have hc2p : 0 < (fun i => du (k * 21 + (t + i) % 21)) j := by show 0 < du (k * 21 + (t + j) % 21); omega
          refine z_iload_n C 0 dX5_untilNext_30 rfl ?_
          exact z_iret C hQ rfl (by rw [ha, z_fst_pos (f := fun i => du (k * 21 + (t + i) % 21)) (by omega) hc2p]) dX5_untilNext_31
  exact loop2 22 0 (by first | assumption | omega) rfl (by omega)
theorem zi_X5_throughAll_X5 : ∀ w ∈ u_ws RX5 TX5 7, w ∈ wsX5_throughAll := by decide +kernel
theorem zl_X5_throughAll_15 : Cond.fieldLink RX5 15 "RippleCounts$Wave" "delays" "[I" ∈ wsX5_throughAll := by decide +kernel
theorem zl_X5_throughAll_9 : Cond.fieldLink RX5 9 "RippleCounts$Wave" "stages" "I" ∈ wsX5_throughAll := by decide +kernel
theorem zd_X5_throughAll : yX5_throughAll.cls ≠ "java/lang/invoke/MethodHandle" ∧ yX5_throughAll.cls ≠ "java/lang/invoke/VarHandle" ∧ (parseMethodDescriptor yX5_throughAll.desc).map (fun d => d.parameters.length) = some 0 := by decide +kernel
set_option maxHeartbeats 4000000 in
set_option maxRecDepth 100000 in
theorem c_X5_throughAll (l : Launch) (D : va_G) (cI cZ cO : ClassId) (hW aD aN aU : Nat) (t st sh ow : Int) (dl dn du : Int → Int) (hst : 0 ≤ st ∧ st ≤ 5) : z_Mi l yX5_throughAll wsX5_throughAll 0 0 D (z_T cI cZ cO) [.ref hW] [(hW, .inr (5, [.int (z_I t), .int (z_I st), .int (z_I sh), .int (z_I ow), .ref aD, .ref aN, .ref aU])), (aD, z_ai cI 5 dl), (aN, z_ai cI 5 dn), (aU, z_ai cI 105 du)] [(hW, .inr (5, [.int (z_I t), .int (z_I st), .int (z_I sh), .int (z_I ow), .ref aD, .ref aN, .ref aU])), (aD, z_ai cI 5 dl), (aN, z_ai cI 5 dn), (aU, z_ai cI 105 du)] (z_it (fun j a => a + dl j) 0 st.toNat) := by
  refine z_Mi_of (cc := cX5_throughAll) (nL := 3) (ret := (some .int)) (by decide +kernel) rfl (Nat.le_of_ble_eq_true rfl) ?_
  intro p e s m args below meth c A Q C hQ
  change z_V p l e { frames := 0, cells := 0, slots := 0, locals := 0 } s m args below meth c D A 3 0 0 Q [(hW, .inr (5, [.int (z_I t), .int (z_I st), .int (z_I sh), .int (z_I ow), .ref aD, .ref aN, .ref aU])), (aD, z_ai cI 5 dl), (aN, z_ai cI 5 dn), (aU, z_ai cI 105 du)] 0 [(0, .ref hW)] []
  refine z_iconst C 0 dX5_throughAll_0 ?_
  refine z_istore_n C [(1, .int (z_I 0)), (0, .ref hW)] dX5_throughAll_1 (by decide) rfl ?_
  refine z_iconst C 0 dX5_throughAll_2 ?_
  refine z_istore_n C [(2, .int (z_I 0)), (1, .int (z_I 0)), (0, .ref hW)] dX5_throughAll_3 (by decide) rfl ?_
  have loop4 : ∀ (zn : Nat) (j : Int) (a : Int), 0 ≤ j ∧ j ≤ st → a = z_it (fun j a => a + dl j) 0 j.toNat → (st - j) < (zn : Int) → z_V p l e { frames := 0, cells := 0, slots := 0, locals := 0 } s m args below meth c D A 3 0 0 Q [(hW, .inr (5, [.int (z_I t), .int (z_I st), .int (z_I sh), .int (z_I ow), .ref aD, .ref aN, .ref aU])), (aD, z_ai cI 5 dl), (aN, z_ai cI 5 dn), (aU, z_ai cI 105 du)] 4 [(2, .int (z_I j)), (1, .int (z_I a)), (0, .ref hW)] [] := by
    intro zn
    induction zn with
    | zero => intro j a hj ha hm; exact absurd hm (by omega)
    | succ zn ih =>
      intro j a hj ha hm
      refine z_iload_n C 0 dX5_throughAll_4 rfl ?_
      refine z_aload_n C 2 dX5_throughAll_5 rfl ?_
      refine z_get C 0 1 zi_X5_throughAll_X5 rfl rfl (by decide) zl_X5_throughAll_9 rfl rfl dX5_throughAll_6 ?_
      refine z_icmp_ge C 27 dX5_throughAll_9 (by decide) (by omega) (by omega) (fun hc1 => ?_) (fun hc1 => ?_)
      · skip
        obtain rfl : j = st := by omega
        refine z_iload_n C 1 dX5_throughAll_27 rfl ?_
        exact z_iret C hQ rfl ha dX5_throughAll_28
      · skip
        refine z_iload_n C 1 dX5_throughAll_12 rfl ?_
        refine z_aload_n C 2 dX5_throughAll_13 rfl ?_
        refine z_get C 0 4 zi_X5_throughAll_X5 rfl rfl (by decide) zl_X5_throughAll_15 rfl rfl dX5_throughAll_14 ?_
        refine z_iload_n C 0 dX5_throughAll_17 rfl ?_
        refine z_iald C 1 0 rfl rfl (by decide) (by omega) dX5_throughAll_18 ?_
        refine z_iadd C dX5_throughAll_19 ?_
        refine z_istore_n C [(1, .int (z_I (a + (dl j)))), (2, .int (z_I j)), (0, .ref hW)] dX5_throughAll_20 (by decide) rfl ?_
        refine z_iinc C 1 [(2, .int (z_I (j + 1))), (1, .int (z_I (a + (dl j)))), (0, .ref hW)] dX5_throughAll_21 rfl (by decide) rfl ?_
        refine z_goto C 4 dX5_throughAll_24 (by decide) ?_
        exact ih (j + 1) (a + (dl j)) (by first | assumption | omega) (by rw [z_it_next _ _ hj.1, ← ha]) (by omega)
  exact loop4 (st.toNat + 1) 0 0 (by first | assumption | omega) rfl (by omega)
theorem zi_X5_readsTrue_X5 : ∀ w ∈ u_ws RX5 TX5 7, w ∈ wsX5_readsTrue := by decide +kernel
theorem zl_X5_readsTrue_15 : Cond.fieldLink RX5 15 "RippleCounts$Wave" "delays" "[I" ∈ wsX5_readsTrue := by decide +kernel
theorem zl_X5_readsTrue_62c : Cond.code Lib.Math.max.name Lib.Math.max.code 2 (some .int) ∈ wsX5_readsTrue := by decide +kernel
theorem zl_X5_readsTrue_62i : Cond.initialized "java/lang/Math" ∈ wsX5_readsTrue := by decide +kernel
theorem zl_X5_readsTrue_62k : Cond.methodLink RX5 62 Lib.Math.max.name ∈ wsX5_readsTrue := by decide +kernel
theorem zl_X5_readsTrue_62s : Cond.static Lib.Math.max.name ∈ wsX5_readsTrue := by decide +kernel
theorem zl_X5_readsTrue_9 : Cond.fieldLink RX5 9 "RippleCounts$Wave" "stages" "I" ∈ wsX5_readsTrue := by decide +kernel
theorem zd_X5_readsTrue : yX5_readsTrue.cls ≠ "java/lang/invoke/MethodHandle" ∧ yX5_readsTrue.cls ≠ "java/lang/invoke/VarHandle" ∧ (parseMethodDescriptor yX5_readsTrue.desc).map (fun d => d.parameters.length) = some 2 := by decide +kernel
set_option maxHeartbeats 4000000 in
set_option maxRecDepth 100000 in
theorem c_X5_readsTrue (l : Launch) (D : va_G) (cI cZ cO : ClassId) (hW aD aN aU : Nat) (t st sh ow : Int) (dl dn du : Int → Int) (cm g : Int) (hst : 0 ≤ st ∧ st ≤ 5) (hc : 1 ≤ cm ∧ cm ≤ 32) (hg : 1 ≤ g ∧ g ≤ 50) (hd : ∀ i : Int, 0 ≤ i → i < 5 → 1 ≤ dl i ∧ dl i ≤ 20) : z_Mi l yX5_readsTrue wsX5_readsTrue 1 21 D (z_T cI cZ cO) [.ref hW, .int (z_I cm), .int (z_I g)] [(hW, .inr (5, [.int (z_I t), .int (z_I st), .int (z_I sh), .int (z_I ow), .ref aD, .ref aN, .ref aU])), (aD, z_ai cI 5 dl), (aN, z_ai cI 5 dn), (aU, z_ai cI 105 du)] [(hW, .inr (5, [.int (z_I t), .int (z_I st), .int (z_I sh), .int (z_I ow), .ref aD, .ref aN, .ref aU])), (aD, z_ai cI 5 dl), (aN, z_ai cI 5 dn), (aU, z_ai cI 105 du)] (z_rt dl cm g 0 0 st.toNat) := by
  refine z_Mi_of (cc := cX5_readsTrue) (nL := 6) (ret := (some .boolean)) (by decide +kernel) rfl (Nat.le_of_ble_eq_true rfl) ?_
  intro p e s m args below meth c A Q C hQ
  change z_V p l e { frames := 1, cells := 0, slots := 0, locals := 21 } s m args below meth c D A 6 0 0 Q [(hW, .inr (5, [.int (z_I t), .int (z_I st), .int (z_I sh), .int (z_I ow), .ref aD, .ref aN, .ref aU])), (aD, z_ai cI 5 dl), (aN, z_ai cI 5 dn), (aU, z_ai cI 105 du)] 0 [(0, .ref hW), (1, .int (z_I cm)), (2, .int (z_I g))] []
  refine z_iconst C 0 dX5_readsTrue_0 ?_
  refine z_istore_n C [(3, .int (z_I 0)), (0, .ref hW), (1, .int (z_I cm)), (2, .int (z_I g))] dX5_readsTrue_1 (by decide) rfl ?_
  refine z_iconst C 0 dX5_readsTrue_2 ?_
  refine z_istore C [(4, .int (z_I 0)), (3, .int (z_I 0)), (0, .ref hW), (1, .int (z_I cm)), (2, .int (z_I g))] dX5_readsTrue_3 (by decide) rfl ?_
  have loop5 : ∀ (zn : Nat) (k : Int) (th : Int), 0 ≤ k ∧ k ≤ st → 0 ≤ th ∧ th ≤ 20 * k → z_rt dl cm g 0 0 st.toNat = z_rt dl cm g k th (st - k).toNat → (st - k) < (zn : Int) → z_V p l e { frames := 1, cells := 0, slots := 0, locals := 21 } s m args below meth c D A 6 0 0 Q [(hW, .inr (5, [.int (z_I t), .int (z_I st), .int (z_I sh), .int (z_I ow), .ref aD, .ref aN, .ref aU])), (aD, z_ai cI 5 dl), (aN, z_ai cI 5 dn), (aU, z_ai cI 105 du)] 5 [(4, .int (z_I k)), (3, .int (z_I th)), (0, .ref hW), (1, .int (z_I cm)), (2, .int (z_I g))] [] := by
    intro zn
    induction zn with
    | zero => intro k th hk hth ha hm; exact absurd hm (by omega)
    | succ zn ih =>
      intro k th hk hth ha hm
      refine z_iload C 0 dX5_readsTrue_5 rfl ?_
      refine z_aload_n C 2 dX5_readsTrue_7 rfl ?_
      refine z_get C 0 1 zi_X5_readsTrue_X5 rfl rfl (by decide) zl_X5_readsTrue_9 rfl rfl dX5_readsTrue_8 ?_
      refine z_icmp_ge C 55 dX5_readsTrue_11 (by decide) (by omega) (by omega) (fun hc1 => ?_) (fun hc1 => ?_)
      · skip
        obtain rfl : k = st := by omega
        refine z_iconst C 1 dX5_readsTrue_55 ?_
        exact z_zret C hQ rfl (by rw [ha, show (k - k).toNat = 0 by omega]; rfl) (by omega) dX5_readsTrue_56
      · skip
        have hdk := hd k hk.1 (by omega)
        refine z_iload_n C 1 dX5_readsTrue_14 rfl ?_
        refine z_aload_n C 2 dX5_readsTrue_15 rfl ?_
        refine z_get C 0 4 zi_X5_readsTrue_X5 rfl rfl (by decide) zl_X5_readsTrue_15 rfl rfl dX5_readsTrue_16 ?_
        refine z_iload C 0 dX5_readsTrue_19 rfl ?_
        refine z_iald C 1 0 rfl rfl (by decide) (by omega) dX5_readsTrue_21 ?_
        refine z_iadd C dX5_readsTrue_22 ?_
        refine z_istore_n C [(3, .int (z_I (th + (dl k)))), (4, .int (z_I k)), (0, .ref hW), (1, .int (z_I cm)), (2, .int (z_I g))] dX5_readsTrue_23 (by decide) rfl ?_
        refine z_iconst C 0 dX5_readsTrue_24 ?_
        refine z_iload_n C 3 dX5_readsTrue_25 rfl ?_
        refine z_iload_n C 0 dX5_readsTrue_26 rfl ?_
        refine z_iload_n C 4 dX5_readsTrue_27 rfl ?_
        have hq : 0 ≤ (th + dl k) / g := Int.ediv_nonneg (by omega) (by omega)
        have hq2 := Int.ediv_le_self g (show 0 ≤ th + dl k by omega)
        refine z_idiv C dX5_readsTrue_28 (by omega) (by omega) ?_
        refine z_isub C dX5_readsTrue_29 ?_
        refine z_mmax C zl_X5_readsTrue_62k zl_X5_readsTrue_62s zl_X5_readsTrue_62i zl_X5_readsTrue_62c (by decide) (by decide) (by omega) (by omega) dX5_readsTrue_30 ?_
        refine z_istore C [(5, .int (z_I (if 0 < cm - ((th + (dl k)) / g) then cm - ((th + (dl k)) / g) else 0))), (3, .int (z_I (th + (dl k)))), (4, .int (z_I k)), (0, .ref hW), (1, .int (z_I cm)), (2, .int (z_I g))] dX5_readsTrue_33 (by decide) rfl ?_
        have hmx : 0 ≤ (if 0 < cm - (th + dl k) / g then cm - (th + dl k) / g else 0) ∧ (if 0 < cm - (th + dl k) / g then cm - (th + dl k) / g else 0) < 33 := by split <;> omega
        have hxr := z_xrb hmx (b := cm) (by omega) (k := k) (by omega)
        refine z_iload C 0 dX5_readsTrue_35 rfl ?_
        refine z_iload_n C 4 dX5_readsTrue_37 rfl ?_
        refine z_ixor C (z_xr (if 0 < cm - (th + dl k) / g then cm - (th + dl k) / g else 0) cm) dX5_readsTrue_38 (z_xor (by omega) (by omega)) ?_
        refine z_iload C 2 dX5_readsTrue_39 rfl ?_
        refine z_ishr C (z_xr (if 0 < cm - (th + dl k) / g then cm - (th + dl k) / g else 0) cm / z_p2 k) dX5_readsTrue_41 (z_shr hxr.1 (by omega)) ?_
        refine z_iconst C 1 dX5_readsTrue_42 ?_
        refine z_iand C (z_xr (if 0 < cm - (th + dl k) / g then cm - (th + dl k) / g else 0) cm / z_p2 k % 2) dX5_readsTrue_43 (z_and1 ⟨Int.ediv_nonneg hxr.1.1 (Int.le_of_lt (z_p2_pos k)), by have := Int.ediv_le_self (z_p2 k) hxr.1.1; omega⟩) ?_
        refine z_if_eq C 49 dX5_readsTrue_44 (by decide) (by omega) (fun hc2 => ?_) (fun hc2 => ?_)
        · skip
          have heq := hxr.2.mp hc2
          refine z_iinc C 2 [(4, .int (z_I (k + 1))), (5, .int (z_I (if 0 < cm - ((th + (dl k)) / g) then cm - ((th + (dl k)) / g) else 0))), (3, .int (z_I (th + (dl k)))), (0, .ref hW), (1, .int (z_I cm)), (2, .int (z_I g))] dX5_readsTrue_49 rfl (by decide) rfl ?_
          refine z_goto C 5 dX5_readsTrue_52 (by decide) ?_
          refine z_lsub [(4, .int (z_I (k + 1))), (3, .int (z_I (th + (dl k)))), (0, .ref hW), (1, .int (z_I cm)), (2, .int (z_I g))] [0, 2, 3, 4, 5] rfl ?_
          exact ih (k + 1) (th + (dl k)) (by first | assumption | omega) (by first | assumption | omega) (by rw [ha, z_rt_step (m := (st - (k + 1)).toNat) (by omega), if_pos heq]) (by omega)
        · skip
          have hne : ¬ z_bit (if 0 < cm - (th + dl k) / g then cm - (th + dl k) / g else 0) k = z_bit cm k := fun q => hc2 (hxr.2.mpr q)
          refine z_iconst C 0 dX5_readsTrue_47 ?_
          exact z_zret C hQ rfl (by rw [ha, z_rt_step (m := (st - (k + 1)).toNat) (by omega), if_neg hne]) (by omega) dX5_readsTrue_48
  exact loop5 (st.toNat + 1) 0 0 (by first | assumption | omega) (by first | assumption | omega) (by rw [Int.sub_zero]) (by omega)
theorem zi_X5_wrongReadings_X5 : ∀ w ∈ u_ws RX5 TX5 7, w ∈ wsX5_wrongReadings := by decide +kernel
theorem zl_X5_wrongReadings_9 : Cond.fieldLink RX5 9 "RippleCounts$Wave" "stages" "I" ∈ wsX5_wrongReadings := by decide +kernel
theorem zd_X5_wrongReadings : yX5_wrongReadings.cls ≠ "java/lang/invoke/MethodHandle" ∧ yX5_wrongReadings.cls ≠ "java/lang/invoke/VarHandle" ∧ (parseMethodDescriptor yX5_wrongReadings.desc).map (fun d => d.parameters.length) = some 1 := by decide +kernel
set_option maxHeartbeats 4000000 in
set_option maxRecDepth 100000 in
theorem c_X5_wrongReadings (l : Launch) (D : va_G) (cI cZ cO : ClassId) (hW aD aN aU : Nat) (t st sh ow : Int) (dl dn du : Int → Int) (g : Int) (hst : 0 ≤ st ∧ st ≤ 5) (hg : 1 ≤ g ∧ g ≤ 50) (hd : ∀ i : Int, 0 ≤ i → i < 5 → 1 ≤ dl i ∧ dl i ≤ 20) : z_Mi l yX5_wrongReadings wsX5_wrongReadings 2 46 D (z_T cI cZ cO) [.ref hW, .int (z_I g)] [(hW, .inr (5, [.int (z_I t), .int (z_I st), .int (z_I sh), .int (z_I ow), .ref aD, .ref aN, .ref aU])), (aD, z_ai cI 5 dl), (aN, z_ai cI 5 dn), (aU, z_ai cI 105 du)] [(hW, .inr (5, [.int (z_I t), .int (z_I st), .int (z_I sh), .int (z_I ow), .ref aD, .ref aN, .ref aU])), (aD, z_ai cI 5 dl), (aN, z_ai cI 5 dn), (aU, z_ai cI 105 du)] (z_it (fun j a => if z_rt dl (j + 1) g 0 0 st.toNat = 0 then a + 1 else a) 0 (z_p2 st).toNat) := by
  refine z_Mi_of (cc := cX5_wrongReadings) (nL := 4) (ret := (some .int)) (by decide +kernel) rfl (Nat.le_of_ble_eq_true rfl) ?_
  intro p e s m args below meth c A Q C hQ
  change z_V p l e { frames := 2, cells := 0, slots := 0, locals := 46 } s m args below meth c D A 4 0 0 Q [(hW, .inr (5, [.int (z_I t), .int (z_I st), .int (z_I sh), .int (z_I ow), .ref aD, .ref aN, .ref aU])), (aD, z_ai cI 5 dl), (aN, z_ai cI 5 dn), (aU, z_ai cI 105 du)] 0 [(0, .ref hW), (1, .int (z_I g))] []
  have hp := z_p2_le hst
  refine z_iconst C 0 dX5_wrongReadings_0 ?_
  refine z_istore_n C [(2, .int (z_I 0)), (0, .ref hW), (1, .int (z_I g))] dX5_wrongReadings_1 (by decide) rfl ?_
  refine z_iconst C 1 dX5_wrongReadings_2 ?_
  refine z_istore_n C [(3, .int (z_I 1)), (2, .int (z_I 0)), (0, .ref hW), (1, .int (z_I g))] dX5_wrongReadings_3 (by decide) rfl ?_
  have loop4 : ∀ (zn : Nat) (j : Int) (a : Int), 0 ≤ j ∧ j ≤ z_p2 st → a = z_it (fun j a => if z_rt dl (j + 1) g 0 0 st.toNat = 0 then a + 1 else a) 0 j.toNat → (z_p2 st - j) < (zn : Int) → z_V p l e { frames := 2, cells := 0, slots := 0, locals := 46 } s m args below meth c D A 4 0 0 Q [(hW, .inr (5, [.int (z_I t), .int (z_I st), .int (z_I sh), .int (z_I ow), .ref aD, .ref aN, .ref aU])), (aD, z_ai cI 5 dl), (aN, z_ai cI 5 dn), (aU, z_ai cI 105 du)] 4 [(3, .int (z_I (j + 1))), (2, .int (z_I a)), (0, .ref hW), (1, .int (z_I g))] [] := by
    intro zn
    induction zn with
    | zero => intro j a hj ha hm; exact absurd hm (by omega)
    | succ zn ih =>
      intro j a hj ha hm
      refine z_iload_n C 0 dX5_wrongReadings_4 rfl ?_
      refine z_iconst C 1 dX5_wrongReadings_5 ?_
      refine z_aload_n C 2 dX5_wrongReadings_6 rfl ?_
      refine z_get C 0 1 zi_X5_wrongReadings_X5 rfl rfl (by decide) zl_X5_wrongReadings_9 rfl rfl dX5_wrongReadings_7 ?_
      refine z_ishl C (z_p2 st) dX5_wrongReadings_10 (z_shl1 (by omega)) ?_
      refine z_icmp_gt C 32 dX5_wrongReadings_11 (by decide) (by omega) (by omega) (fun hc1 => ?_) (fun hc1 => ?_)
      · skip
        obtain rfl : j = z_p2 st := by omega
        refine z_iload_n C 1 dX5_wrongReadings_32 rfl ?_
        exact z_iret C hQ rfl ha dX5_wrongReadings_33
      · skip
        refine z_aload_n C 2 dX5_wrongReadings_14 rfl ?_
        refine z_iload_n C 0 dX5_wrongReadings_15 rfl ?_
        refine z_iload_n C 3 dX5_wrongReadings_16 rfl ?_
        refine z_callVi C [0, 1, 2, 3] [(hW, .inr (5, [.int (z_I t), .int (z_I st), .int (z_I sh), .int (z_I ow), .ref aD, .ref aN, .ref aU])), (aD, z_ai cI 5 dl), (aN, z_ai cI 5 dn), (aU, z_ai cI 105 du)] [.int (z_I (j + 1)), .int (z_I g)] [] (c_X5_readsTrue l D cI cZ cO hW aD aN aU t st sh ow dl dn du (j + 1) g (by first | assumption | omega) (by first | assumption | omega) (by first | assumption | omega) (by first | assumption | omega)) gX5_wrongReadings_X5_readsTrue rfl zd_X5_readsTrue rfl (by decide) rfl rfl rfl (by decide) rfl rfl rfl (by decide) (by decide) dX5_wrongReadings_17 ?_
        have hrt := z_rt01 dl (j + 1) g st.toNat 0 0
        refine z_if_ne C 26 dX5_wrongReadings_20 (by decide) (by omega) (fun hc2 => ?_) (fun hc2 => ?_)
        · skip
          have hz := hc2
          refine z_iinc C 0 [(3, .int (z_I ((j + 1) + 1))), (2, .int (z_I a)), (0, .ref hW), (1, .int (z_I g))] dX5_wrongReadings_26 rfl (by decide) rfl ?_
          refine z_goto C 4 dX5_wrongReadings_29 (by decide) ?_
          exact ih (j + 1) a (by first | assumption | omega) (by rw [z_it_next _ _ hj.1, ← ha]; first | rw [if_pos hz] | rw [if_neg hz]) (by omega)
        · skip
          have hz := hc2
          refine z_iinc C 1 [(2, .int (z_I (a + 1))), (3, .int (z_I (j + 1))), (0, .ref hW), (1, .int (z_I g))] dX5_wrongReadings_23 rfl (by decide) rfl ?_
          refine z_iinc C 1 [(3, .int (z_I ((j + 1) + 1))), (2, .int (z_I (a + 1))), (0, .ref hW), (1, .int (z_I g))] dX5_wrongReadings_26 rfl (by decide) rfl ?_
          refine z_goto C 4 dX5_wrongReadings_29 (by decide) ?_
          exact ih (j + 1) (a + 1) (by first | assumption | omega) (by rw [z_it_next _ _ hj.1, ← ha]; first | rw [if_pos hz] | rw [if_neg hz]) (by omega)
  refine z_lveq [(3, .int (z_I (0 + 1))), (2, .int (z_I 0)), (0, .ref hW), (1, .int (z_I g))] rfl ?_
  exact loop4 ((z_p2 st).toNat + 1) 0 0 (by first | assumption | omega) rfl (by omega)
end
section
theorem dX3_init_0 : decode cX3_init 0 = .ok (.aload_n 0, 1) := by decide +kernel
theorem dX3_init_1 : decode cX3_init 1 = .ok (.invokespecial 3, 3) := by decide +kernel
theorem dX3_init_4 : decode cX3_init 4 = .ok (.aload_n 0, 1) := by decide +kernel
theorem dX3_init_5 : decode cX3_init 5 = .ok (.bipush 99, 2) := by decide +kernel
theorem dX3_init_7 : decode cX3_init 7 = .ok (.newarray .int, 2) := by decide +kernel
theorem dX3_init_9 : decode cX3_init 9 = .ok (.putfield 9, 3) := by decide +kernel
theorem dX3_init_12 : decode cX3_init 12 = .ok (.aload_n 0, 1) := by decide +kernel
theorem dX3_init_13 : decode cX3_init 13 = .ok (.bipush 99, 2) := by decide +kernel
theorem dX3_init_15 : decode cX3_init 15 = .ok (.newarray .int, 2) := by decide +kernel
theorem dX3_init_17 : decode cX3_init 17 = .ok (.putfield 15, 3) := by decide +kernel
theorem dX3_init_20 : decode cX3_init 20 = .ok (.aload_n 0, 1) := by decide +kernel
theorem dX3_init_21 : decode cX3_init 21 = .ok (.bipush 99, 2) := by decide +kernel
theorem dX3_init_23 : decode cX3_init 23 = .ok (.newarray .int, 2) := by decide +kernel
theorem dX3_init_25 : decode cX3_init 25 = .ok (.putfield 18, 3) := by decide +kernel
theorem dX3_init_28 : decode cX3_init 28 = .ok (.aload_n 0, 1) := by decide +kernel
theorem dX3_init_29 : decode cX3_init 29 = .ok (.bipush 99, 2) := by decide +kernel
theorem dX3_init_31 : decode cX3_init 31 = .ok (.newarray .boolean, 2) := by decide +kernel
theorem dX3_init_33 : decode cX3_init 33 = .ok (.putfield 21, 3) := by decide +kernel
theorem dX3_init_36 : decode cX3_init 36 = .ok (.return_, 1) := by decide +kernel
theorem dX3_copyFrom_0 : decode cX3_copyFrom 0 = .ok (.aload_n 0, 1) := by decide +kernel
theorem dX3_copyFrom_1 : decode cX3_copyFrom 1 = .ok (.aload_n 1, 1) := by decide +kernel
theorem dX3_copyFrom_2 : decode cX3_copyFrom 2 = .ok (.getfield 25, 3) := by decide +kernel
theorem dX3_copyFrom_5 : decode cX3_copyFrom 5 = .ok (.putfield 25, 3) := by decide +kernel
theorem dX3_copyFrom_8 : decode cX3_copyFrom 8 = .ok (.aload_n 1, 1) := by decide +kernel
theorem dX3_copyFrom_9 : decode cX3_copyFrom 9 = .ok (.getfield 9, 3) := by decide +kernel
theorem dX3_copyFrom_12 : decode cX3_copyFrom 12 = .ok (.iconst 0, 1) := by decide +kernel
theorem dX3_copyFrom_13 : decode cX3_copyFrom 13 = .ok (.aload_n 0, 1) := by decide +kernel
theorem dX3_copyFrom_14 : decode cX3_copyFrom 14 = .ok (.getfield 9, 3) := by decide +kernel
theorem dX3_copyFrom_17 : decode cX3_copyFrom 17 = .ok (.iconst 0, 1) := by decide +kernel
theorem dX3_copyFrom_18 : decode cX3_copyFrom 18 = .ok (.bipush 99, 2) := by decide +kernel
theorem dX3_copyFrom_20 : decode cX3_copyFrom 20 = .ok (.invokestatic 29, 3) := by decide +kernel
theorem dX3_copyFrom_23 : decode cX3_copyFrom 23 = .ok (.aload_n 1, 1) := by decide +kernel
theorem dX3_copyFrom_24 : decode cX3_copyFrom 24 = .ok (.getfield 15, 3) := by decide +kernel
theorem dX3_copyFrom_27 : decode cX3_copyFrom 27 = .ok (.iconst 0, 1) := by decide +kernel
theorem dX3_copyFrom_28 : decode cX3_copyFrom 28 = .ok (.aload_n 0, 1) := by decide +kernel
theorem dX3_copyFrom_29 : decode cX3_copyFrom 29 = .ok (.getfield 15, 3) := by decide +kernel
theorem dX3_copyFrom_32 : decode cX3_copyFrom 32 = .ok (.iconst 0, 1) := by decide +kernel
theorem dX3_copyFrom_33 : decode cX3_copyFrom 33 = .ok (.bipush 99, 2) := by decide +kernel
theorem dX3_copyFrom_35 : decode cX3_copyFrom 35 = .ok (.invokestatic 29, 3) := by decide +kernel
theorem dX3_copyFrom_38 : decode cX3_copyFrom 38 = .ok (.aload_n 1, 1) := by decide +kernel
theorem dX3_copyFrom_39 : decode cX3_copyFrom 39 = .ok (.getfield 18, 3) := by decide +kernel
theorem dX3_copyFrom_42 : decode cX3_copyFrom 42 = .ok (.iconst 0, 1) := by decide +kernel
theorem dX3_copyFrom_43 : decode cX3_copyFrom 43 = .ok (.aload_n 0, 1) := by decide +kernel
theorem dX3_copyFrom_44 : decode cX3_copyFrom 44 = .ok (.getfield 18, 3) := by decide +kernel
theorem dX3_copyFrom_47 : decode cX3_copyFrom 47 = .ok (.iconst 0, 1) := by decide +kernel
theorem dX3_copyFrom_48 : decode cX3_copyFrom 48 = .ok (.bipush 99, 2) := by decide +kernel
theorem dX3_copyFrom_50 : decode cX3_copyFrom 50 = .ok (.invokestatic 29, 3) := by decide +kernel
theorem dX3_copyFrom_53 : decode cX3_copyFrom 53 = .ok (.aload_n 1, 1) := by decide +kernel
theorem dX3_copyFrom_54 : decode cX3_copyFrom 54 = .ok (.getfield 21, 3) := by decide +kernel
theorem dX3_copyFrom_57 : decode cX3_copyFrom 57 = .ok (.iconst 0, 1) := by decide +kernel
theorem dX3_copyFrom_58 : decode cX3_copyFrom 58 = .ok (.aload_n 0, 1) := by decide +kernel
theorem dX3_copyFrom_59 : decode cX3_copyFrom 59 = .ok (.getfield 21, 3) := by decide +kernel
theorem dX3_copyFrom_62 : decode cX3_copyFrom 62 = .ok (.iconst 0, 1) := by decide +kernel
theorem dX3_copyFrom_63 : decode cX3_copyFrom 63 = .ok (.bipush 99, 2) := by decide +kernel
theorem dX3_copyFrom_65 : decode cX3_copyFrom 65 = .ok (.invokestatic 29, 3) := by decide +kernel
theorem dX3_copyFrom_68 : decode cX3_copyFrom 68 = .ok (.return_, 1) := by decide +kernel
theorem dX3_clear_0 : decode cX3_clear 0 = .ok (.aload_n 0, 1) := by decide +kernel
theorem dX3_clear_1 : decode cX3_clear 1 = .ok (.iconst 0, 1) := by decide +kernel
theorem dX3_clear_2 : decode cX3_clear 2 = .ok (.putfield 25, 3) := by decide +kernel
theorem dX3_clear_5 : decode cX3_clear 5 = .ok (.return_, 1) := by decide +kernel
theorem dX3_add_0 : decode cX3_add 0 = .ok (.aload_n 0, 1) := by decide +kernel
theorem dX3_add_1 : decode cX3_add 1 = .ok (.getfield 25, 3) := by decide +kernel
theorem dX3_add_4 : decode cX3_add 4 = .ok (.bipush 99, 2) := by decide +kernel
theorem dX3_add_6 : decode cX3_add 6 = .ok (.if_icmp .lt 4, 3) := by decide +kernel
theorem dX3_add_9 : decode cX3_add 9 = .ok (.return_, 1) := by decide +kernel
theorem dX3_add_10 : decode cX3_add 10 = .ok (.aload_n 0, 1) := by decide +kernel
theorem dX3_add_11 : decode cX3_add 11 = .ok (.getfield 9, 3) := by decide +kernel
theorem dX3_add_14 : decode cX3_add 14 = .ok (.aload_n 0, 1) := by decide +kernel
theorem dX3_add_15 : decode cX3_add 15 = .ok (.getfield 25, 3) := by decide +kernel
theorem dX3_add_18 : decode cX3_add 18 = .ok (.iload_n 1, 1) := by decide +kernel
theorem dX3_add_19 : decode cX3_add 19 = .ok (.iastore, 1) := by decide +kernel
theorem dX3_add_20 : decode cX3_add 20 = .ok (.aload_n 0, 1) := by decide +kernel
theorem dX3_add_21 : decode cX3_add 21 = .ok (.getfield 15, 3) := by decide +kernel
theorem dX3_add_24 : decode cX3_add 24 = .ok (.aload_n 0, 1) := by decide +kernel
theorem dX3_add_25 : decode cX3_add 25 = .ok (.getfield 25, 3) := by decide +kernel
theorem dX3_add_28 : decode cX3_add 28 = .ok (.iload_n 2, 1) := by decide +kernel
theorem dX3_add_29 : decode cX3_add 29 = .ok (.iastore, 1) := by decide +kernel
theorem dX3_add_30 : decode cX3_add 30 = .ok (.aload_n 0, 1) := by decide +kernel
theorem dX3_add_31 : decode cX3_add 31 = .ok (.getfield 18, 3) := by decide +kernel
theorem dX3_add_34 : decode cX3_add 34 = .ok (.aload_n 0, 1) := by decide +kernel
theorem dX3_add_35 : decode cX3_add 35 = .ok (.getfield 25, 3) := by decide +kernel
theorem dX3_add_38 : decode cX3_add 38 = .ok (.iload_n 3, 1) := by decide +kernel
theorem dX3_add_39 : decode cX3_add 39 = .ok (.iastore, 1) := by decide +kernel
theorem dX3_add_40 : decode cX3_add 40 = .ok (.aload_n 0, 1) := by decide +kernel
theorem dX3_add_41 : decode cX3_add 41 = .ok (.getfield 21, 3) := by decide +kernel
theorem dX3_add_44 : decode cX3_add 44 = .ok (.aload_n 0, 1) := by decide +kernel
theorem dX3_add_45 : decode cX3_add 45 = .ok (.getfield 25, 3) := by decide +kernel
theorem dX3_add_48 : decode cX3_add 48 = .ok (.iload 4, 2) := by decide +kernel
theorem dX3_add_50 : decode cX3_add 50 = .ok (.bastore, 1) := by decide +kernel
theorem dX3_add_51 : decode cX3_add 51 = .ok (.aload_n 0, 1) := by decide +kernel
theorem dX3_add_52 : decode cX3_add 52 = .ok (.dup, 1) := by decide +kernel
theorem dX3_add_53 : decode cX3_add 53 = .ok (.getfield 25, 3) := by decide +kernel
theorem dX3_add_56 : decode cX3_add 56 = .ok (.iconst 1, 1) := by decide +kernel
theorem dX3_add_57 : decode cX3_add 57 = .ok (.iadd, 1) := by decide +kernel
theorem dX3_add_58 : decode cX3_add 58 = .ok (.putfield 25, 3) := by decide +kernel
theorem dX3_add_61 : decode cX3_add 61 = .ok (.return_, 1) := by decide +kernel
set_option maxRecDepth 20000 in
theorem ggX3_tell_X3_isTrue : GoodIn wsX3_tell wsX3_isTrue := goodIn_r _ [10, 2, 4, 11, 12, 13, 14, 15] (by decide +kernel) (by decide +kernel)
set_option maxRecDepth 20000 in
theorem gX3_tell_X3_isTrue : GoodIn wsX3_tell (wsV RX3 35 RX3 yX3_isTrue wsX3_isTrue) := goodIn_app (goodIn_of _ (by decide +kernel)) ggX3_tell_X3_isTrue
theorem dX3_tell_0 : decode cX3_tell 0 = .ok (.iload_n 1, 1) := by decide +kernel
theorem dX3_tell_1 : decode cX3_tell 1 = .ok (.ifCond .lt 11, 3) := by decide +kernel
theorem dX3_tell_4 : decode cX3_tell 4 = .ok (.iload_n 1, 1) := by decide +kernel
theorem dX3_tell_5 : decode cX3_tell 5 = .ok (.aload_n 0, 1) := by decide +kernel
theorem dX3_tell_6 : decode cX3_tell 6 = .ok (.getfield 25, 3) := by decide +kernel
theorem dX3_tell_9 : decode cX3_tell 9 = .ok (.if_icmp .lt 5, 3) := by decide +kernel
theorem dX3_tell_12 : decode cX3_tell 12 = .ok (.iconst (-1), 1) := by decide +kernel
theorem dX3_tell_13 : decode cX3_tell 13 = .ok (.ireturn, 1) := by decide +kernel
theorem dX3_tell_14 : decode cX3_tell 14 = .ok (.iload_n 2, 1) := by decide +kernel
theorem dX3_tell_15 : decode cX3_tell 15 = .ok (.tableswitch 83 0 4 #[33, 40, 47, 54, 69], 33) := by decide +kernel
theorem dX3_tell_48 : decode cX3_tell 48 = .ok (.aload_n 0, 1) := by decide +kernel
theorem dX3_tell_49 : decode cX3_tell 49 = .ok (.getfield 9, 3) := by decide +kernel
theorem dX3_tell_52 : decode cX3_tell 52 = .ok (.iload_n 1, 1) := by decide +kernel
theorem dX3_tell_53 : decode cX3_tell 53 = .ok (.iaload, 1) := by decide +kernel
theorem dX3_tell_54 : decode cX3_tell 54 = .ok (.ireturn, 1) := by decide +kernel
theorem dX3_tell_55 : decode cX3_tell 55 = .ok (.aload_n 0, 1) := by decide +kernel
theorem dX3_tell_56 : decode cX3_tell 56 = .ok (.getfield 15, 3) := by decide +kernel
theorem dX3_tell_59 : decode cX3_tell 59 = .ok (.iload_n 1, 1) := by decide +kernel
theorem dX3_tell_60 : decode cX3_tell 60 = .ok (.iaload, 1) := by decide +kernel
theorem dX3_tell_61 : decode cX3_tell 61 = .ok (.ireturn, 1) := by decide +kernel
theorem dX3_tell_62 : decode cX3_tell 62 = .ok (.aload_n 0, 1) := by decide +kernel
theorem dX3_tell_63 : decode cX3_tell 63 = .ok (.getfield 18, 3) := by decide +kernel
theorem dX3_tell_66 : decode cX3_tell 66 = .ok (.iload_n 1, 1) := by decide +kernel
theorem dX3_tell_67 : decode cX3_tell 67 = .ok (.iaload, 1) := by decide +kernel
theorem dX3_tell_68 : decode cX3_tell 68 = .ok (.ireturn, 1) := by decide +kernel
theorem dX3_tell_69 : decode cX3_tell 69 = .ok (.aload_n 0, 1) := by decide +kernel
theorem dX3_tell_70 : decode cX3_tell 70 = .ok (.getfield 21, 3) := by decide +kernel
theorem dX3_tell_73 : decode cX3_tell 73 = .ok (.iload_n 1, 1) := by decide +kernel
theorem dX3_tell_74 : decode cX3_tell 74 = .ok (.baload, 1) := by decide +kernel
theorem dX3_tell_75 : decode cX3_tell 75 = .ok (.ifCond .eq 7, 3) := by decide +kernel
theorem dX3_tell_78 : decode cX3_tell 78 = .ok (.iconst 1, 1) := by decide +kernel
theorem dX3_tell_79 : decode cX3_tell 79 = .ok (.goto 4, 3) := by decide +kernel
theorem dX3_tell_82 : decode cX3_tell 82 = .ok (.iconst 0, 1) := by decide +kernel
theorem dX3_tell_83 : decode cX3_tell 83 = .ok (.ireturn, 1) := by decide +kernel
theorem dX3_tell_84 : decode cX3_tell 84 = .ok (.aload_n 0, 1) := by decide +kernel
theorem dX3_tell_85 : decode cX3_tell 85 = .ok (.iload_n 1, 1) := by decide +kernel
theorem dX3_tell_86 : decode cX3_tell 86 = .ok (.invokevirtual 35, 3) := by decide +kernel
theorem dX3_tell_89 : decode cX3_tell 89 = .ok (.ifCond .eq 7, 3) := by decide +kernel
theorem dX3_tell_92 : decode cX3_tell 92 = .ok (.iconst 1, 1) := by decide +kernel
theorem dX3_tell_93 : decode cX3_tell 93 = .ok (.goto 4, 3) := by decide +kernel
theorem dX3_tell_96 : decode cX3_tell 96 = .ok (.iconst 0, 1) := by decide +kernel
theorem dX3_tell_97 : decode cX3_tell 97 = .ok (.ireturn, 1) := by decide +kernel
theorem dX3_tell_98 : decode cX3_tell 98 = .ok (.bipush (-2), 2) := by decide +kernel
theorem dX3_tell_100 : decode cX3_tell 100 = .ok (.ireturn, 1) := by decide +kernel
set_option maxRecDepth 20000 in
theorem ggX3_trueOnes_X3_isTrue : GoodIn wsX3_trueOnes wsX3_isTrue := goodIn_r _ [6, 7, 8, 9, 10, 11, 12, 13] (by decide +kernel) (by decide +kernel)
set_option maxRecDepth 20000 in
theorem gX3_trueOnes_X3_isTrue : GoodIn wsX3_trueOnes (wsV RX3 35 RX3 yX3_isTrue wsX3_isTrue) := goodIn_app (goodIn_of _ (by decide +kernel)) ggX3_trueOnes_X3_isTrue
theorem dX3_trueOnes_0 : decode cX3_trueOnes 0 = .ok (.iconst 0, 1) := by decide +kernel
theorem dX3_trueOnes_1 : decode cX3_trueOnes 1 = .ok (.istore_n 1, 1) := by decide +kernel
theorem dX3_trueOnes_2 : decode cX3_trueOnes 2 = .ok (.iconst 0, 1) := by decide +kernel
theorem dX3_trueOnes_3 : decode cX3_trueOnes 3 = .ok (.istore_n 2, 1) := by decide +kernel
theorem dX3_trueOnes_4 : decode cX3_trueOnes 4 = .ok (.iload_n 2, 1) := by decide +kernel
theorem dX3_trueOnes_5 : decode cX3_trueOnes 5 = .ok (.aload_n 0, 1) := by decide +kernel
theorem dX3_trueOnes_6 : decode cX3_trueOnes 6 = .ok (.getfield 25, 3) := by decide +kernel
theorem dX3_trueOnes_9 : decode cX3_trueOnes 9 = .ok (.if_icmp .ge 20, 3) := by decide +kernel
theorem dX3_trueOnes_12 : decode cX3_trueOnes 12 = .ok (.aload_n 0, 1) := by decide +kernel
theorem dX3_trueOnes_13 : decode cX3_trueOnes 13 = .ok (.iload_n 2, 1) := by decide +kernel
theorem dX3_trueOnes_14 : decode cX3_trueOnes 14 = .ok (.invokevirtual 35, 3) := by decide +kernel
theorem dX3_trueOnes_17 : decode cX3_trueOnes 17 = .ok (.ifCond .eq 6, 3) := by decide +kernel
theorem dX3_trueOnes_20 : decode cX3_trueOnes 20 = .ok (.iinc 1 1, 3) := by decide +kernel
theorem dX3_trueOnes_23 : decode cX3_trueOnes 23 = .ok (.iinc 2 1, 3) := by decide +kernel
theorem dX3_trueOnes_26 : decode cX3_trueOnes 26 = .ok (.goto (-22), 3) := by decide +kernel
theorem dX3_trueOnes_29 : decode cX3_trueOnes 29 = .ok (.iload_n 1, 1) := by decide +kernel
theorem dX3_trueOnes_30 : decode cX3_trueOnes 30 = .ok (.ireturn, 1) := by decide +kernel
theorem dX3_isTrue_0 : decode cX3_isTrue 0 = .ok (.aload_n 0, 1) := by decide +kernel
theorem dX3_isTrue_1 : decode cX3_isTrue 1 = .ok (.getfield 9, 3) := by decide +kernel
theorem dX3_isTrue_4 : decode cX3_isTrue 4 = .ok (.iload_n 1, 1) := by decide +kernel
theorem dX3_isTrue_5 : decode cX3_isTrue 5 = .ok (.iaload, 1) := by decide +kernel
theorem dX3_isTrue_6 : decode cX3_isTrue 6 = .ok (.aload_n 0, 1) := by decide +kernel
theorem dX3_isTrue_7 : decode cX3_isTrue 7 = .ok (.getfield 18, 3) := by decide +kernel
theorem dX3_isTrue_10 : decode cX3_isTrue 10 = .ok (.iload_n 1, 1) := by decide +kernel
theorem dX3_isTrue_11 : decode cX3_isTrue 11 = .ok (.iaload, 1) := by decide +kernel
theorem dX3_isTrue_12 : decode cX3_isTrue 12 = .ok (.if_icmp .ne 7, 3) := by decide +kernel
theorem dX3_isTrue_15 : decode cX3_isTrue 15 = .ok (.iconst 1, 1) := by decide +kernel
theorem dX3_isTrue_16 : decode cX3_isTrue 16 = .ok (.goto 4, 3) := by decide +kernel
theorem dX3_isTrue_19 : decode cX3_isTrue 19 = .ok (.iconst 0, 1) := by decide +kernel
theorem dX3_isTrue_20 : decode cX3_isTrue 20 = .ok (.ireturn, 1) := by decide +kernel
end
section
theorem dX4_init_0 : decode cX4_init 0 = .ok (.aload_n 0, 1) := by decide +kernel
theorem dX4_init_1 : decode cX4_init 1 = .ok (.invokespecial 3, 3) := by decide +kernel
theorem dX4_init_4 : decode cX4_init 4 = .ok (.aload_n 0, 1) := by decide +kernel
theorem dX4_init_5 : decode cX4_init 5 = .ok (.bipush 32, 2) := by decide +kernel
theorem dX4_init_7 : decode cX4_init 7 = .ok (.newarray .int, 2) := by decide +kernel
theorem dX4_init_9 : decode cX4_init 9 = .ok (.putfield 9, 3) := by decide +kernel
theorem dX4_init_12 : decode cX4_init 12 = .ok (.aload_n 0, 1) := by decide +kernel
theorem dX4_init_13 : decode cX4_init 13 = .ok (.bipush 32, 2) := by decide +kernel
theorem dX4_init_15 : decode cX4_init 15 = .ok (.newarray .int, 2) := by decide +kernel
theorem dX4_init_17 : decode cX4_init 17 = .ok (.putfield 15, 3) := by decide +kernel
theorem dX4_init_20 : decode cX4_init 20 = .ok (.aload_n 0, 1) := by decide +kernel
theorem dX4_init_21 : decode cX4_init 21 = .ok (.bipush 32, 2) := by decide +kernel
theorem dX4_init_23 : decode cX4_init 23 = .ok (.newarray .int, 2) := by decide +kernel
theorem dX4_init_25 : decode cX4_init 25 = .ok (.putfield 18, 3) := by decide +kernel
theorem dX4_init_28 : decode cX4_init 28 = .ok (.aload_n 0, 1) := by decide +kernel
theorem dX4_init_29 : decode cX4_init 29 = .ok (.bipush 32, 2) := by decide +kernel
theorem dX4_init_31 : decode cX4_init 31 = .ok (.newarray .int, 2) := by decide +kernel
theorem dX4_init_33 : decode cX4_init 33 = .ok (.putfield 21, 3) := by decide +kernel
theorem dX4_init_36 : decode cX4_init 36 = .ok (.return_, 1) := by decide +kernel
theorem dX4_copyFrom_0 : decode cX4_copyFrom 0 = .ok (.aload_n 0, 1) := by decide +kernel
theorem dX4_copyFrom_1 : decode cX4_copyFrom 1 = .ok (.aload_n 1, 1) := by decide +kernel
theorem dX4_copyFrom_2 : decode cX4_copyFrom 2 = .ok (.getfield 24, 3) := by decide +kernel
theorem dX4_copyFrom_5 : decode cX4_copyFrom 5 = .ok (.putfield 24, 3) := by decide +kernel
theorem dX4_copyFrom_8 : decode cX4_copyFrom 8 = .ok (.aload_n 1, 1) := by decide +kernel
theorem dX4_copyFrom_9 : decode cX4_copyFrom 9 = .ok (.getfield 9, 3) := by decide +kernel
theorem dX4_copyFrom_12 : decode cX4_copyFrom 12 = .ok (.iconst 0, 1) := by decide +kernel
theorem dX4_copyFrom_13 : decode cX4_copyFrom 13 = .ok (.aload_n 0, 1) := by decide +kernel
theorem dX4_copyFrom_14 : decode cX4_copyFrom 14 = .ok (.getfield 9, 3) := by decide +kernel
theorem dX4_copyFrom_17 : decode cX4_copyFrom 17 = .ok (.iconst 0, 1) := by decide +kernel
theorem dX4_copyFrom_18 : decode cX4_copyFrom 18 = .ok (.bipush 32, 2) := by decide +kernel
theorem dX4_copyFrom_20 : decode cX4_copyFrom 20 = .ok (.invokestatic 28, 3) := by decide +kernel
theorem dX4_copyFrom_23 : decode cX4_copyFrom 23 = .ok (.aload_n 1, 1) := by decide +kernel
theorem dX4_copyFrom_24 : decode cX4_copyFrom 24 = .ok (.getfield 15, 3) := by decide +kernel
theorem dX4_copyFrom_27 : decode cX4_copyFrom 27 = .ok (.iconst 0, 1) := by decide +kernel
theorem dX4_copyFrom_28 : decode cX4_copyFrom 28 = .ok (.aload_n 0, 1) := by decide +kernel
theorem dX4_copyFrom_29 : decode cX4_copyFrom 29 = .ok (.getfield 15, 3) := by decide +kernel
theorem dX4_copyFrom_32 : decode cX4_copyFrom 32 = .ok (.iconst 0, 1) := by decide +kernel
theorem dX4_copyFrom_33 : decode cX4_copyFrom 33 = .ok (.bipush 32, 2) := by decide +kernel
theorem dX4_copyFrom_35 : decode cX4_copyFrom 35 = .ok (.invokestatic 28, 3) := by decide +kernel
theorem dX4_copyFrom_38 : decode cX4_copyFrom 38 = .ok (.aload_n 1, 1) := by decide +kernel
theorem dX4_copyFrom_39 : decode cX4_copyFrom 39 = .ok (.getfield 18, 3) := by decide +kernel
theorem dX4_copyFrom_42 : decode cX4_copyFrom 42 = .ok (.iconst 0, 1) := by decide +kernel
theorem dX4_copyFrom_43 : decode cX4_copyFrom 43 = .ok (.aload_n 0, 1) := by decide +kernel
theorem dX4_copyFrom_44 : decode cX4_copyFrom 44 = .ok (.getfield 18, 3) := by decide +kernel
theorem dX4_copyFrom_47 : decode cX4_copyFrom 47 = .ok (.iconst 0, 1) := by decide +kernel
theorem dX4_copyFrom_48 : decode cX4_copyFrom 48 = .ok (.bipush 32, 2) := by decide +kernel
theorem dX4_copyFrom_50 : decode cX4_copyFrom 50 = .ok (.invokestatic 28, 3) := by decide +kernel
theorem dX4_copyFrom_53 : decode cX4_copyFrom 53 = .ok (.aload_n 1, 1) := by decide +kernel
theorem dX4_copyFrom_54 : decode cX4_copyFrom 54 = .ok (.getfield 21, 3) := by decide +kernel
theorem dX4_copyFrom_57 : decode cX4_copyFrom 57 = .ok (.iconst 0, 1) := by decide +kernel
theorem dX4_copyFrom_58 : decode cX4_copyFrom 58 = .ok (.aload_n 0, 1) := by decide +kernel
theorem dX4_copyFrom_59 : decode cX4_copyFrom 59 = .ok (.getfield 21, 3) := by decide +kernel
theorem dX4_copyFrom_62 : decode cX4_copyFrom 62 = .ok (.iconst 0, 1) := by decide +kernel
theorem dX4_copyFrom_63 : decode cX4_copyFrom 63 = .ok (.bipush 32, 2) := by decide +kernel
theorem dX4_copyFrom_65 : decode cX4_copyFrom 65 = .ok (.invokestatic 28, 3) := by decide +kernel
theorem dX4_copyFrom_68 : decode cX4_copyFrom 68 = .ok (.return_, 1) := by decide +kernel
set_option maxRecDepth 20000 in
theorem ggX4_clear_J7_fill_53178 : GoodIn wsX4_clear wsJ7_fill_53178 := goodIn_r _ [7] (by decide +kernel) (by decide +kernel)
set_option maxRecDepth 20000 in
theorem gX4_clear_J7_fill_53178 : GoodIn wsX4_clear (va_wsS RX4 34 yJ7_fill_53178 wsJ7_fill_53178) := goodIn_app (goodIn_of _ (by decide +kernel)) ggX4_clear_J7_fill_53178
theorem dX4_clear_0 : decode cX4_clear 0 = .ok (.aload_n 0, 1) := by decide +kernel
theorem dX4_clear_1 : decode cX4_clear 1 = .ok (.iconst 0, 1) := by decide +kernel
theorem dX4_clear_2 : decode cX4_clear 2 = .ok (.putfield 24, 3) := by decide +kernel
theorem dX4_clear_5 : decode cX4_clear 5 = .ok (.aload_n 0, 1) := by decide +kernel
theorem dX4_clear_6 : decode cX4_clear 6 = .ok (.getfield 15, 3) := by decide +kernel
theorem dX4_clear_9 : decode cX4_clear 9 = .ok (.iconst 0, 1) := by decide +kernel
theorem dX4_clear_10 : decode cX4_clear 10 = .ok (.invokestatic 34, 3) := by decide +kernel
theorem dX4_clear_13 : decode cX4_clear 13 = .ok (.aload_n 0, 1) := by decide +kernel
theorem dX4_clear_14 : decode cX4_clear 14 = .ok (.getfield 18, 3) := by decide +kernel
theorem dX4_clear_17 : decode cX4_clear 17 = .ok (.iconst 0, 1) := by decide +kernel
theorem dX4_clear_18 : decode cX4_clear 18 = .ok (.invokestatic 34, 3) := by decide +kernel
theorem dX4_clear_21 : decode cX4_clear 21 = .ok (.return_, 1) := by decide +kernel
theorem dX4_add_0 : decode cX4_add 0 = .ok (.iload_n 1, 1) := by decide +kernel
theorem dX4_add_1 : decode cX4_add 1 = .ok (.ifCond .lt 9, 3) := by decide +kernel
theorem dX4_add_4 : decode cX4_add 4 = .ok (.iload_n 1, 1) := by decide +kernel
theorem dX4_add_5 : decode cX4_add 5 = .ok (.bipush 32, 2) := by decide +kernel
theorem dX4_add_7 : decode cX4_add 7 = .ok (.if_icmp .lt 4, 3) := by decide +kernel
theorem dX4_add_10 : decode cX4_add 10 = .ok (.return_, 1) := by decide +kernel
theorem dX4_add_11 : decode cX4_add 11 = .ok (.aload_n 0, 1) := by decide +kernel
theorem dX4_add_12 : decode cX4_add 12 = .ok (.getfield 15, 3) := by decide +kernel
theorem dX4_add_15 : decode cX4_add 15 = .ok (.iload_n 1, 1) := by decide +kernel
theorem dX4_add_16 : decode cX4_add 16 = .ok (.iaload, 1) := by decide +kernel
theorem dX4_add_17 : decode cX4_add 17 = .ok (.ifCond .ne 39, 3) := by decide +kernel
theorem dX4_add_20 : decode cX4_add 20 = .ok (.aload_n 0, 1) := by decide +kernel
theorem dX4_add_21 : decode cX4_add 21 = .ok (.getfield 24, 3) := by decide +kernel
theorem dX4_add_24 : decode cX4_add 24 = .ok (.bipush 32, 2) := by decide +kernel
theorem dX4_add_26 : decode cX4_add 26 = .ok (.if_icmp .ge 30, 3) := by decide +kernel
theorem dX4_add_29 : decode cX4_add 29 = .ok (.aload_n 0, 1) := by decide +kernel
theorem dX4_add_30 : decode cX4_add 30 = .ok (.getfield 9, 3) := by decide +kernel
theorem dX4_add_33 : decode cX4_add 33 = .ok (.aload_n 0, 1) := by decide +kernel
theorem dX4_add_34 : decode cX4_add 34 = .ok (.getfield 24, 3) := by decide +kernel
theorem dX4_add_37 : decode cX4_add 37 = .ok (.iload_n 1, 1) := by decide +kernel
theorem dX4_add_38 : decode cX4_add 38 = .ok (.iastore, 1) := by decide +kernel
theorem dX4_add_39 : decode cX4_add 39 = .ok (.aload_n 0, 1) := by decide +kernel
theorem dX4_add_40 : decode cX4_add 40 = .ok (.getfield 21, 3) := by decide +kernel
theorem dX4_add_43 : decode cX4_add 43 = .ok (.iload_n 1, 1) := by decide +kernel
theorem dX4_add_44 : decode cX4_add 44 = .ok (.iload_n 2, 1) := by decide +kernel
theorem dX4_add_45 : decode cX4_add 45 = .ok (.iastore, 1) := by decide +kernel
theorem dX4_add_46 : decode cX4_add 46 = .ok (.aload_n 0, 1) := by decide +kernel
theorem dX4_add_47 : decode cX4_add 47 = .ok (.dup, 1) := by decide +kernel
theorem dX4_add_48 : decode cX4_add 48 = .ok (.getfield 24, 3) := by decide +kernel
theorem dX4_add_51 : decode cX4_add 51 = .ok (.iconst 1, 1) := by decide +kernel
theorem dX4_add_52 : decode cX4_add 52 = .ok (.iadd, 1) := by decide +kernel
theorem dX4_add_53 : decode cX4_add 53 = .ok (.putfield 24, 3) := by decide +kernel
theorem dX4_add_56 : decode cX4_add 56 = .ok (.aload_n 0, 1) := by decide +kernel
theorem dX4_add_57 : decode cX4_add 57 = .ok (.getfield 15, 3) := by decide +kernel
theorem dX4_add_60 : decode cX4_add 60 = .ok (.iload_n 1, 1) := by decide +kernel
theorem dX4_add_61 : decode cX4_add 61 = .ok (.dup2, 1) := by decide +kernel
theorem dX4_add_62 : decode cX4_add 62 = .ok (.iaload, 1) := by decide +kernel
theorem dX4_add_63 : decode cX4_add 63 = .ok (.iconst 1, 1) := by decide +kernel
theorem dX4_add_64 : decode cX4_add 64 = .ok (.iadd, 1) := by decide +kernel
theorem dX4_add_65 : decode cX4_add 65 = .ok (.iastore, 1) := by decide +kernel
theorem dX4_add_66 : decode cX4_add 66 = .ok (.iload_n 3, 1) := by decide +kernel
theorem dX4_add_67 : decode cX4_add 67 = .ok (.ifCond .eq 13, 3) := by decide +kernel
theorem dX4_add_70 : decode cX4_add 70 = .ok (.aload_n 0, 1) := by decide +kernel
theorem dX4_add_71 : decode cX4_add 71 = .ok (.getfield 18, 3) := by decide +kernel
theorem dX4_add_74 : decode cX4_add 74 = .ok (.iload_n 1, 1) := by decide +kernel
theorem dX4_add_75 : decode cX4_add 75 = .ok (.dup2, 1) := by decide +kernel
theorem dX4_add_76 : decode cX4_add 76 = .ok (.iaload, 1) := by decide +kernel
theorem dX4_add_77 : decode cX4_add 77 = .ok (.iconst 1, 1) := by decide +kernel
theorem dX4_add_78 : decode cX4_add 78 = .ok (.iadd, 1) := by decide +kernel
theorem dX4_add_79 : decode cX4_add 79 = .ok (.iastore, 1) := by decide +kernel
theorem dX4_add_80 : decode cX4_add 80 = .ok (.return_, 1) := by decide +kernel
theorem dX4_tell_0 : decode cX4_tell 0 = .ok (.iload_n 1, 1) := by decide +kernel
theorem dX4_tell_1 : decode cX4_tell 1 = .ok (.ifCond .lt 11, 3) := by decide +kernel
theorem dX4_tell_4 : decode cX4_tell 4 = .ok (.iload_n 1, 1) := by decide +kernel
theorem dX4_tell_5 : decode cX4_tell 5 = .ok (.aload_n 0, 1) := by decide +kernel
theorem dX4_tell_6 : decode cX4_tell 6 = .ok (.getfield 24, 3) := by decide +kernel
theorem dX4_tell_9 : decode cX4_tell 9 = .ok (.if_icmp .lt 5, 3) := by decide +kernel
theorem dX4_tell_12 : decode cX4_tell 12 = .ok (.iconst (-1), 1) := by decide +kernel
theorem dX4_tell_13 : decode cX4_tell 13 = .ok (.ireturn, 1) := by decide +kernel
theorem dX4_tell_14 : decode cX4_tell 14 = .ok (.aload_n 0, 1) := by decide +kernel
theorem dX4_tell_15 : decode cX4_tell 15 = .ok (.getfield 9, 3) := by decide +kernel
theorem dX4_tell_18 : decode cX4_tell 18 = .ok (.iload_n 1, 1) := by decide +kernel
theorem dX4_tell_19 : decode cX4_tell 19 = .ok (.iaload, 1) := by decide +kernel
theorem dX4_tell_20 : decode cX4_tell 20 = .ok (.istore_n 3, 1) := by decide +kernel
theorem dX4_tell_21 : decode cX4_tell 21 = .ok (.iload_n 2, 1) := by decide +kernel
theorem dX4_tell_22 : decode cX4_tell 22 = .ok (.tableswitch 53 0 3 #[30, 32, 39, 46], 30) := by decide +kernel
theorem dX4_tell_52 : decode cX4_tell 52 = .ok (.iload_n 3, 1) := by decide +kernel
theorem dX4_tell_53 : decode cX4_tell 53 = .ok (.ireturn, 1) := by decide +kernel
theorem dX4_tell_54 : decode cX4_tell 54 = .ok (.aload_n 0, 1) := by decide +kernel
theorem dX4_tell_55 : decode cX4_tell 55 = .ok (.getfield 15, 3) := by decide +kernel
theorem dX4_tell_58 : decode cX4_tell 58 = .ok (.iload_n 3, 1) := by decide +kernel
theorem dX4_tell_59 : decode cX4_tell 59 = .ok (.iaload, 1) := by decide +kernel
theorem dX4_tell_60 : decode cX4_tell 60 = .ok (.ireturn, 1) := by decide +kernel
theorem dX4_tell_61 : decode cX4_tell 61 = .ok (.aload_n 0, 1) := by decide +kernel
theorem dX4_tell_62 : decode cX4_tell 62 = .ok (.getfield 18, 3) := by decide +kernel
theorem dX4_tell_65 : decode cX4_tell 65 = .ok (.iload_n 3, 1) := by decide +kernel
theorem dX4_tell_66 : decode cX4_tell 66 = .ok (.iaload, 1) := by decide +kernel
theorem dX4_tell_67 : decode cX4_tell 67 = .ok (.ireturn, 1) := by decide +kernel
theorem dX4_tell_68 : decode cX4_tell 68 = .ok (.aload_n 0, 1) := by decide +kernel
theorem dX4_tell_69 : decode cX4_tell 69 = .ok (.getfield 21, 3) := by decide +kernel
theorem dX4_tell_72 : decode cX4_tell 72 = .ok (.iload_n 3, 1) := by decide +kernel
theorem dX4_tell_73 : decode cX4_tell 73 = .ok (.iaload, 1) := by decide +kernel
theorem dX4_tell_74 : decode cX4_tell 74 = .ok (.ireturn, 1) := by decide +kernel
theorem dX4_tell_75 : decode cX4_tell 75 = .ok (.bipush (-2), 2) := by decide +kernel
theorem dX4_tell_77 : decode cX4_tell 77 = .ok (.ireturn, 1) := by decide +kernel
set_option maxRecDepth 20000 in
theorem ggX4_allNumbers_X4_numbersWith : GoodIn wsX4_allNumbers wsX4_numbersWith := goodIn_r _ [5] (by decide +kernel) (by decide +kernel)
set_option maxRecDepth 20000 in
theorem gX4_allNumbers_X4_numbersWith : GoodIn wsX4_allNumbers (va_wsS RX4 40 yX4_numbersWith wsX4_numbersWith) := goodIn_app (goodIn_of _ (by decide +kernel)) ggX4_allNumbers_X4_numbersWith
theorem dX4_allNumbers_0 : decode cX4_allNumbers 0 = .ok (.aload_n 0, 1) := by decide +kernel
theorem dX4_allNumbers_1 : decode cX4_allNumbers 1 = .ok (.getfield 15, 3) := by decide +kernel
theorem dX4_allNumbers_4 : decode cX4_allNumbers 4 = .ok (.invokestatic 40, 3) := by decide +kernel
theorem dX4_allNumbers_7 : decode cX4_allNumbers 7 = .ok (.ireturn, 1) := by decide +kernel
set_option maxRecDepth 20000 in
theorem ggX4_flashedNumbers_X4_numbersWith : GoodIn wsX4_flashedNumbers wsX4_numbersWith := goodIn_r _ [5] (by decide +kernel) (by decide +kernel)
set_option maxRecDepth 20000 in
theorem gX4_flashedNumbers_X4_numbersWith : GoodIn wsX4_flashedNumbers (va_wsS RX4 40 yX4_numbersWith wsX4_numbersWith) := goodIn_app (goodIn_of _ (by decide +kernel)) ggX4_flashedNumbers_X4_numbersWith
theorem dX4_flashedNumbers_0 : decode cX4_flashedNumbers 0 = .ok (.aload_n 0, 1) := by decide +kernel
theorem dX4_flashedNumbers_1 : decode cX4_flashedNumbers 1 = .ok (.getfield 18, 3) := by decide +kernel
theorem dX4_flashedNumbers_4 : decode cX4_flashedNumbers 4 = .ok (.invokestatic 40, 3) := by decide +kernel
theorem dX4_flashedNumbers_7 : decode cX4_flashedNumbers 7 = .ok (.ireturn, 1) := by decide +kernel
theorem dX4_numbersWith_0 : decode cX4_numbersWith 0 = .ok (.iconst 0, 1) := by decide +kernel
theorem dX4_numbersWith_1 : decode cX4_numbersWith 1 = .ok (.istore_n 1, 1) := by decide +kernel
theorem dX4_numbersWith_2 : decode cX4_numbersWith 2 = .ok (.iconst 0, 1) := by decide +kernel
theorem dX4_numbersWith_3 : decode cX4_numbersWith 3 = .ok (.istore_n 2, 1) := by decide +kernel
theorem dX4_numbersWith_4 : decode cX4_numbersWith 4 = .ok (.iload_n 2, 1) := by decide +kernel
theorem dX4_numbersWith_5 : decode cX4_numbersWith 5 = .ok (.bipush 32, 2) := by decide +kernel
theorem dX4_numbersWith_7 : decode cX4_numbersWith 7 = .ok (.if_icmp .ge 27, 3) := by decide +kernel
theorem dX4_numbersWith_10 : decode cX4_numbersWith 10 = .ok (.iload_n 2, 1) := by decide +kernel
theorem dX4_numbersWith_11 : decode cX4_numbersWith 11 = .ok (.aload_n 0, 1) := by decide +kernel
theorem dX4_numbersWith_12 : decode cX4_numbersWith 12 = .ok (.arraylength, 1) := by decide +kernel
theorem dX4_numbersWith_13 : decode cX4_numbersWith 13 = .ok (.if_icmp .ge 21, 3) := by decide +kernel
theorem dX4_numbersWith_16 : decode cX4_numbersWith 16 = .ok (.aload_n 0, 1) := by decide +kernel
theorem dX4_numbersWith_17 : decode cX4_numbersWith 17 = .ok (.iload_n 2, 1) := by decide +kernel
theorem dX4_numbersWith_18 : decode cX4_numbersWith 18 = .ok (.iaload, 1) := by decide +kernel
theorem dX4_numbersWith_19 : decode cX4_numbersWith 19 = .ok (.ifCond .le 9, 3) := by decide +kernel
theorem dX4_numbersWith_22 : decode cX4_numbersWith 22 = .ok (.iload_n 1, 1) := by decide +kernel
theorem dX4_numbersWith_23 : decode cX4_numbersWith 23 = .ok (.iconst 1, 1) := by decide +kernel
theorem dX4_numbersWith_24 : decode cX4_numbersWith 24 = .ok (.iload_n 2, 1) := by decide +kernel
theorem dX4_numbersWith_25 : decode cX4_numbersWith 25 = .ok (.ishl, 1) := by decide +kernel
theorem dX4_numbersWith_26 : decode cX4_numbersWith 26 = .ok (.ior, 1) := by decide +kernel
theorem dX4_numbersWith_27 : decode cX4_numbersWith 27 = .ok (.istore_n 1, 1) := by decide +kernel
theorem dX4_numbersWith_28 : decode cX4_numbersWith 28 = .ok (.iinc 2 1, 3) := by decide +kernel
theorem dX4_numbersWith_31 : decode cX4_numbersWith 31 = .ok (.goto (-27), 3) := by decide +kernel
theorem dX4_numbersWith_34 : decode cX4_numbersWith 34 = .ok (.iload_n 1, 1) := by decide +kernel
theorem dX4_numbersWith_35 : decode cX4_numbersWith 35 = .ok (.ireturn, 1) := by decide +kernel
end
section
theorem zi_X5_copyFrom_X5 : ∀ w ∈ u_ws RX5 TX5 7, w ∈ wsX5_copyFrom := by decide +kernel
theorem zl_X5_copyFrom_15 : Cond.fieldLink RX5 15 "RippleCounts$Wave" "delays" "[I" ∈ wsX5_copyFrom := by decide +kernel
theorem zl_X5_copyFrom_19 : Cond.fieldLink RX5 19 "RippleCounts$Wave" "done" "[I" ∈ wsX5_copyFrom := by decide +kernel
theorem zl_X5_copyFrom_22 : Cond.fieldLink RX5 22 "RippleCounts$Wave" "due" "[I" ∈ wsX5_copyFrom := by decide +kernel
theorem zl_X5_copyFrom_31 : Cond.fieldLink RX5 31 "RippleCounts$Wave" "time" "I" ∈ wsX5_copyFrom := by decide +kernel
theorem zl_X5_copyFrom_34 : Cond.fieldLink RX5 34 "RippleCounts$Wave" "shows" "I" ∈ wsX5_copyFrom := by decide +kernel
theorem zl_X5_copyFrom_37 : Cond.fieldLink RX5 37 "RippleCounts$Wave" "onTheirWay" "I" ∈ wsX5_copyFrom := by decide +kernel
theorem zl_X5_copyFrom_40i : Cond.initialized "java/lang/System" ∈ wsX5_copyFrom := by decide +kernel
theorem zl_X5_copyFrom_40k : Cond.methodLink RX5 40 arraycopyName ∈ wsX5_copyFrom := by decide +kernel
theorem zl_X5_copyFrom_40n : Cond.native arraycopyName ∈ wsX5_copyFrom := by decide +kernel
theorem zl_X5_copyFrom_40s : Cond.static arraycopyName ∈ wsX5_copyFrom := by decide +kernel
theorem zl_X5_copyFrom_9 : Cond.fieldLink RX5 9 "RippleCounts$Wave" "stages" "I" ∈ wsX5_copyFrom := by decide +kernel
theorem zd_X5_copyFrom : yX5_copyFrom.cls ≠ "java/lang/invoke/MethodHandle" ∧ yX5_copyFrom.cls ≠ "java/lang/invoke/VarHandle" ∧ (parseMethodDescriptor yX5_copyFrom.desc).map (fun d => d.parameters.length) = some 1 := by decide +kernel
set_option maxHeartbeats 4000000 in
set_option maxRecDepth 100000 in
theorem c_X5_copyFrom (l : Launch) (D : va_G) (cI cZ cO : ClassId) (hW aD aN aU : Nat) (t st sh ow : Int) (dl dn du : Int → Int) (hWo aDo aNo aUo : Nat) (to sto sho owo : Int) (dlo dno duo : Int → Int) : z_Mv l yX5_copyFrom wsX5_copyFrom 1 40 D (z_T cI cZ cO) [.ref hW, .ref hWo] [(hW, .inr (5, [.int (z_I t), .int (z_I st), .int (z_I sh), .int (z_I ow), .ref aD, .ref aN, .ref aU])), (aD, z_ai cI 5 dl), (aN, z_ai cI 5 dn), (aU, z_ai cI 105 du), (hWo, .inr (5, [.int (z_I to), .int (z_I sto), .int (z_I sho), .int (z_I owo), .ref aDo, .ref aNo, .ref aUo])), (aDo, z_ai cI 5 dlo), (aNo, z_ai cI 5 dno), (aUo, z_ai cI 105 duo)] [(hW, .inr (5, [.int (z_I to), .int (z_I sto), .int (z_I sho), .int (z_I owo), .ref aD, .ref aN, .ref aU])), (aD, z_ai cI 5 dlo), (aN, z_ai cI 5 dno), (aU, z_ai cI 105 duo), (hWo, .inr (5, [.int (z_I to), .int (z_I sto), .int (z_I sho), .int (z_I owo), .ref aDo, .ref aNo, .ref aUo])), (aDo, z_ai cI 5 dlo), (aNo, z_ai cI 5 dno), (aUo, z_ai cI 105 duo)] := by
  refine z_Mv_of (cc := cX5_copyFrom) (nL := 2) (ret := none) (by decide +kernel) rfl (Nat.le_of_ble_eq_true rfl) ?_
  intro p e s m args below meth c A Q C hQ
  change z_V p l e { frames := 1, cells := 0, slots := 0, locals := 40 } s m args below meth c D A 2 0 0 Q [(hW, .inr (5, [.int (z_I t), .int (z_I st), .int (z_I sh), .int (z_I ow), .ref aD, .ref aN, .ref aU])), (aD, z_ai cI 5 dl), (aN, z_ai cI 5 dn), (aU, z_ai cI 105 du), (hWo, .inr (5, [.int (z_I to), .int (z_I sto), .int (z_I sho), .int (z_I owo), .ref aDo, .ref aNo, .ref aUo])), (aDo, z_ai cI 5 dlo), (aNo, z_ai cI 5 dno), (aUo, z_ai cI 105 duo)] 0 [(0, .ref hW), (1, .ref hWo)] []
  refine z_aload_n C 0 dX5_copyFrom_0 rfl ?_
  refine z_aload_n C 1 dX5_copyFrom_1 rfl ?_
  refine z_get C 4 0 zi_X5_copyFrom_X5 rfl rfl (by decide) zl_X5_copyFrom_31 rfl rfl dX5_copyFrom_2 ?_
  refine z_put C 0 0 [(hW, .inr (5, [.int (z_I to), .int (z_I st), .int (z_I sh), .int (z_I ow), .ref aD, .ref aN, .ref aU])), (aD, z_ai cI 5 dl), (aN, z_ai cI 5 dn), (aU, z_ai cI 105 du), (hWo, .inr (5, [.int (z_I to), .int (z_I sto), .int (z_I sho), .int (z_I owo), .ref aDo, .ref aNo, .ref aUo])), (aDo, z_ai cI 5 dlo), (aNo, z_ai cI 5 dno), (aUo, z_ai cI 105 duo)] zi_X5_copyFrom_X5 tyX5_ok nmX5 rfl rfl (by decide) zl_X5_copyFrom_31 rfl rfl rfl rfl (Nat.le_of_ble_eq_true rfl) rfl dX5_copyFrom_5 ?_
  refine z_aload_n C 0 dX5_copyFrom_8 rfl ?_
  refine z_aload_n C 1 dX5_copyFrom_9 rfl ?_
  refine z_get C 4 1 zi_X5_copyFrom_X5 rfl rfl (by decide) zl_X5_copyFrom_9 rfl rfl dX5_copyFrom_10 ?_
  refine z_put C 0 1 [(hW, .inr (5, [.int (z_I to), .int (z_I sto), .int (z_I sh), .int (z_I ow), .ref aD, .ref aN, .ref aU])), (aD, z_ai cI 5 dl), (aN, z_ai cI 5 dn), (aU, z_ai cI 105 du), (hWo, .inr (5, [.int (z_I to), .int (z_I sto), .int (z_I sho), .int (z_I owo), .ref aDo, .ref aNo, .ref aUo])), (aDo, z_ai cI 5 dlo), (aNo, z_ai cI 5 dno), (aUo, z_ai cI 105 duo)] zi_X5_copyFrom_X5 tyX5_ok nmX5 rfl rfl (by decide) zl_X5_copyFrom_9 rfl rfl rfl rfl (Nat.le_of_ble_eq_true rfl) rfl dX5_copyFrom_13 ?_
  refine z_aload_n C 0 dX5_copyFrom_16 rfl ?_
  refine z_aload_n C 1 dX5_copyFrom_17 rfl ?_
  refine z_get C 4 2 zi_X5_copyFrom_X5 rfl rfl (by decide) zl_X5_copyFrom_34 rfl rfl dX5_copyFrom_18 ?_
  refine z_put C 0 2 [(hW, .inr (5, [.int (z_I to), .int (z_I sto), .int (z_I sho), .int (z_I ow), .ref aD, .ref aN, .ref aU])), (aD, z_ai cI 5 dl), (aN, z_ai cI 5 dn), (aU, z_ai cI 105 du), (hWo, .inr (5, [.int (z_I to), .int (z_I sto), .int (z_I sho), .int (z_I owo), .ref aDo, .ref aNo, .ref aUo])), (aDo, z_ai cI 5 dlo), (aNo, z_ai cI 5 dno), (aUo, z_ai cI 105 duo)] zi_X5_copyFrom_X5 tyX5_ok nmX5 rfl rfl (by decide) zl_X5_copyFrom_34 rfl rfl rfl rfl (Nat.le_of_ble_eq_true rfl) rfl dX5_copyFrom_21 ?_
  refine z_aload_n C 0 dX5_copyFrom_24 rfl ?_
  refine z_aload_n C 1 dX5_copyFrom_25 rfl ?_
  refine z_get C 4 3 zi_X5_copyFrom_X5 rfl rfl (by decide) zl_X5_copyFrom_37 rfl rfl dX5_copyFrom_26 ?_
  refine z_put C 0 3 [(hW, .inr (5, [.int (z_I to), .int (z_I sto), .int (z_I sho), .int (z_I owo), .ref aD, .ref aN, .ref aU])), (aD, z_ai cI 5 dl), (aN, z_ai cI 5 dn), (aU, z_ai cI 105 du), (hWo, .inr (5, [.int (z_I to), .int (z_I sto), .int (z_I sho), .int (z_I owo), .ref aDo, .ref aNo, .ref aUo])), (aDo, z_ai cI 5 dlo), (aNo, z_ai cI 5 dno), (aUo, z_ai cI 105 duo)] zi_X5_copyFrom_X5 tyX5_ok nmX5 rfl rfl (by decide) zl_X5_copyFrom_37 rfl rfl rfl rfl (Nat.le_of_ble_eq_true rfl) rfl dX5_copyFrom_29 ?_
  refine z_aload_n C 1 dX5_copyFrom_32 rfl ?_
  refine z_get C 4 4 zi_X5_copyFrom_X5 rfl rfl (by decide) zl_X5_copyFrom_15 rfl rfl dX5_copyFrom_33 ?_
  refine z_iconst C 0 dX5_copyFrom_36 ?_
  refine z_aload_n C 0 dX5_copyFrom_37 rfl ?_
  refine z_get C 0 4 zi_X5_copyFrom_X5 rfl rfl (by decide) zl_X5_copyFrom_15 rfl rfl dX5_copyFrom_38 ?_
  refine z_iconst C 0 dX5_copyFrom_41 ?_
  refine z_iconst C 5 dX5_copyFrom_42 ?_
  refine z_copy C 5 1 0 [(hW, .inr (5, [.int (z_I to), .int (z_I sto), .int (z_I sho), .int (z_I owo), .ref aD, .ref aN, .ref aU])), (aD, z_ai cI 5 (z_cp dlo dl 0 0 5)), (aN, z_ai cI 5 dn), (aU, z_ai cI 105 du), (hWo, .inr (5, [.int (z_I to), .int (z_I sto), .int (z_I sho), .int (z_I owo), .ref aDo, .ref aNo, .ref aUo])), (aDo, z_ai cI 5 dlo), (aNo, z_ai cI 5 dno), (aUo, z_ai cI 105 duo)] .int zl_X5_copyFrom_40k zl_X5_copyFrom_40n zl_X5_copyFrom_40s zl_X5_copyFrom_40i rfl rfl rfl rfl (by omega) (fun _ _ _ => rfl) (by decide) rfl dX5_copyFrom_43 ?_
  refine z_arr (c := c) 1 dlo [(hW, .inr (5, [.int (z_I to), .int (z_I sto), .int (z_I sho), .int (z_I owo), .ref aD, .ref aN, .ref aU])), (aD, z_ai cI 5 dlo), (aN, z_ai cI 5 dn), (aU, z_ai cI 105 du), (hWo, .inr (5, [.int (z_I to), .int (z_I sto), .int (z_I sho), .int (z_I owo), .ref aDo, .ref aNo, .ref aUo])), (aDo, z_ai cI 5 dlo), (aNo, z_ai cI 5 dno), (aUo, z_ai cI 105 duo)] rfl (fun i h1 h2 => z_cp_full h1 (by omega)) rfl ?_
  refine z_aload_n C 1 dX5_copyFrom_46 rfl ?_
  refine z_get C 4 5 zi_X5_copyFrom_X5 rfl rfl (by decide) zl_X5_copyFrom_19 rfl rfl dX5_copyFrom_47 ?_
  refine z_iconst C 0 dX5_copyFrom_50 ?_
  refine z_aload_n C 0 dX5_copyFrom_51 rfl ?_
  refine z_get C 0 5 zi_X5_copyFrom_X5 rfl rfl (by decide) zl_X5_copyFrom_19 rfl rfl dX5_copyFrom_52 ?_
  refine z_iconst C 0 dX5_copyFrom_55 ?_
  refine z_iconst C 5 dX5_copyFrom_56 ?_
  refine z_copy C 6 2 0 [(hW, .inr (5, [.int (z_I to), .int (z_I sto), .int (z_I sho), .int (z_I owo), .ref aD, .ref aN, .ref aU])), (aD, z_ai cI 5 dlo), (aN, z_ai cI 5 (z_cp dno dn 0 0 5)), (aU, z_ai cI 105 du), (hWo, .inr (5, [.int (z_I to), .int (z_I sto), .int (z_I sho), .int (z_I owo), .ref aDo, .ref aNo, .ref aUo])), (aDo, z_ai cI 5 dlo), (aNo, z_ai cI 5 dno), (aUo, z_ai cI 105 duo)] .int zl_X5_copyFrom_40k zl_X5_copyFrom_40n zl_X5_copyFrom_40s zl_X5_copyFrom_40i rfl rfl rfl rfl (by omega) (fun _ _ _ => rfl) (by decide) rfl dX5_copyFrom_57 ?_
  refine z_arr (c := c) 2 dno [(hW, .inr (5, [.int (z_I to), .int (z_I sto), .int (z_I sho), .int (z_I owo), .ref aD, .ref aN, .ref aU])), (aD, z_ai cI 5 dlo), (aN, z_ai cI 5 dno), (aU, z_ai cI 105 du), (hWo, .inr (5, [.int (z_I to), .int (z_I sto), .int (z_I sho), .int (z_I owo), .ref aDo, .ref aNo, .ref aUo])), (aDo, z_ai cI 5 dlo), (aNo, z_ai cI 5 dno), (aUo, z_ai cI 105 duo)] rfl (fun i h1 h2 => z_cp_full h1 (by omega)) rfl ?_
  refine z_aload_n C 1 dX5_copyFrom_60 rfl ?_
  refine z_get C 4 6 zi_X5_copyFrom_X5 rfl rfl (by decide) zl_X5_copyFrom_22 rfl rfl dX5_copyFrom_61 ?_
  refine z_iconst C 0 dX5_copyFrom_64 ?_
  refine z_aload_n C 0 dX5_copyFrom_65 rfl ?_
  refine z_get C 0 6 zi_X5_copyFrom_X5 rfl rfl (by decide) zl_X5_copyFrom_22 rfl rfl dX5_copyFrom_66 ?_
  refine z_iconst C 0 dX5_copyFrom_69 ?_
  refine z_bipush C 105 dX5_copyFrom_70 (by decide) ?_
  refine z_copy C 7 3 0 [(hW, .inr (5, [.int (z_I to), .int (z_I sto), .int (z_I sho), .int (z_I owo), .ref aD, .ref aN, .ref aU])), (aD, z_ai cI 5 dlo), (aN, z_ai cI 5 dno), (aU, z_ai cI 105 (z_cp duo du 0 0 105)), (hWo, .inr (5, [.int (z_I to), .int (z_I sto), .int (z_I sho), .int (z_I owo), .ref aDo, .ref aNo, .ref aUo])), (aDo, z_ai cI 5 dlo), (aNo, z_ai cI 5 dno), (aUo, z_ai cI 105 duo)] .int zl_X5_copyFrom_40k zl_X5_copyFrom_40n zl_X5_copyFrom_40s zl_X5_copyFrom_40i rfl rfl rfl rfl (by omega) (fun _ _ _ => rfl) (by decide) rfl dX5_copyFrom_72 ?_
  refine z_arr (c := c) 3 duo [(hW, .inr (5, [.int (z_I to), .int (z_I sto), .int (z_I sho), .int (z_I owo), .ref aD, .ref aN, .ref aU])), (aD, z_ai cI 5 dlo), (aN, z_ai cI 5 dno), (aU, z_ai cI 105 duo), (hWo, .inr (5, [.int (z_I to), .int (z_I sto), .int (z_I sho), .int (z_I owo), .ref aDo, .ref aNo, .ref aUo])), (aDo, z_ai cI 5 dlo), (aNo, z_ai cI 5 dno), (aUo, z_ai cI 105 duo)] rfl (fun i h1 h2 => z_cp_full h1 (by omega)) rfl ?_
  exact z_vret C hQ rfl dX5_copyFrom_75
theorem zi_X5_beginAnew_X5 : ∀ w ∈ u_ws RX5 TX5 7, w ∈ wsX5_beginAnew := by decide +kernel
theorem zl_X5_beginAnew_19 : Cond.fieldLink RX5 19 "RippleCounts$Wave" "done" "[I" ∈ wsX5_beginAnew := by decide +kernel
theorem zl_X5_beginAnew_22 : Cond.fieldLink RX5 22 "RippleCounts$Wave" "due" "[I" ∈ wsX5_beginAnew := by decide +kernel
theorem zl_X5_beginAnew_34 : Cond.fieldLink RX5 34 "RippleCounts$Wave" "shows" "I" ∈ wsX5_beginAnew := by decide +kernel
theorem zl_X5_beginAnew_37 : Cond.fieldLink RX5 37 "RippleCounts$Wave" "onTheirWay" "I" ∈ wsX5_beginAnew := by decide +kernel
theorem zl_X5_beginAnew_9 : Cond.fieldLink RX5 9 "RippleCounts$Wave" "stages" "I" ∈ wsX5_beginAnew := by decide +kernel
theorem zd_X5_beginAnew : yX5_beginAnew.cls ≠ "java/lang/invoke/MethodHandle" ∧ yX5_beginAnew.cls ≠ "java/lang/invoke/VarHandle" ∧ (parseMethodDescriptor yX5_beginAnew.desc).map (fun d => d.parameters.length) = some 1 := by decide +kernel
set_option maxHeartbeats 4000000 in
set_option maxRecDepth 100000 in
theorem c_X5_beginAnew (l : Launch) (D : va_G) (cI cZ cO : ClassId) (hW aD aN aU : Nat) (t st sh ow : Int) (dl dn du : Int → Int) (k : Int) : z_Mv l yX5_beginAnew wsX5_beginAnew 1 23 D (z_T cI cZ cO) [.ref hW, .int (z_I k)] [(hW, .inr (5, [.int (z_I t), .int (z_I st), .int (z_I sh), .int (z_I ow), .ref aD, .ref aN, .ref aU])), (aD, z_ai cI 5 dl), (aN, z_ai cI 5 dn), (aU, z_ai cI 105 du)] [(hW, .inr (5, [.int (z_I t), .int (z_I k), .int (z_I 0), .int (z_I 0), .ref aD, .ref aN, .ref aU])), (aD, z_ai cI 5 dl), (aN, z_ai cI 5 (fun _ => 0)), (aU, z_ai cI 105 (fun _ => 0))] := by
  refine z_Mv_of (cc := cX5_beginAnew) (nL := 2) (ret := none) (by decide +kernel) rfl (Nat.le_of_ble_eq_true rfl) ?_
  intro p e s m args below meth c A Q C hQ
  change z_V p l e { frames := 1, cells := 0, slots := 0, locals := 23 } s m args below meth c D A 2 0 0 Q [(hW, .inr (5, [.int (z_I t), .int (z_I st), .int (z_I sh), .int (z_I ow), .ref aD, .ref aN, .ref aU])), (aD, z_ai cI 5 dl), (aN, z_ai cI 5 dn), (aU, z_ai cI 105 du)] 0 [(0, .ref hW), (1, .int (z_I k))] []
  refine z_aload_n C 0 dX5_beginAnew_0 rfl ?_
  refine z_iload_n C 1 dX5_beginAnew_1 rfl ?_
  refine z_put C 0 1 [(hW, .inr (5, [.int (z_I t), .int (z_I k), .int (z_I sh), .int (z_I ow), .ref aD, .ref aN, .ref aU])), (aD, z_ai cI 5 dl), (aN, z_ai cI 5 dn), (aU, z_ai cI 105 du)] zi_X5_beginAnew_X5 tyX5_ok nmX5 rfl rfl (by decide) zl_X5_beginAnew_9 rfl rfl rfl rfl (Nat.le_of_ble_eq_true rfl) rfl dX5_beginAnew_2 ?_
  refine z_aload_n C 0 dX5_beginAnew_5 rfl ?_
  refine z_iconst C 0 dX5_beginAnew_6 ?_
  refine z_put C 0 2 [(hW, .inr (5, [.int (z_I t), .int (z_I k), .int (z_I 0), .int (z_I ow), .ref aD, .ref aN, .ref aU])), (aD, z_ai cI 5 dl), (aN, z_ai cI 5 dn), (aU, z_ai cI 105 du)] zi_X5_beginAnew_X5 tyX5_ok nmX5 rfl rfl (by decide) zl_X5_beginAnew_34 rfl rfl rfl rfl (Nat.le_of_ble_eq_true rfl) rfl dX5_beginAnew_7 ?_
  refine z_aload_n C 0 dX5_beginAnew_10 rfl ?_
  refine z_iconst C 0 dX5_beginAnew_11 ?_
  refine z_put C 0 3 [(hW, .inr (5, [.int (z_I t), .int (z_I k), .int (z_I 0), .int (z_I 0), .ref aD, .ref aN, .ref aU])), (aD, z_ai cI 5 dl), (aN, z_ai cI 5 dn), (aU, z_ai cI 105 du)] zi_X5_beginAnew_X5 tyX5_ok nmX5 rfl rfl (by decide) zl_X5_beginAnew_37 rfl rfl rfl rfl (Nat.le_of_ble_eq_true rfl) rfl dX5_beginAnew_12 ?_
  refine z_aload_n C 0 dX5_beginAnew_15 rfl ?_
  refine z_get C 0 5 zi_X5_beginAnew_X5 rfl rfl (by decide) zl_X5_beginAnew_19 rfl rfl dX5_beginAnew_16 ?_
  refine z_iconst C 0 dX5_beginAnew_19 ?_
  refine z_callSv C [2] [(hW, .inr (5, [.int (z_I t), .int (z_I k), .int (z_I 0), .int (z_I 0), .ref aD, .ref aN, .ref aU])), (aD, z_ai cI 5 dl), (aN, z_ai cI 5 (fun _ => 0)), (aU, z_ai cI 105 du)] [.ref aN, .int (z_I 0)] [] (c_J7_fill_53178_5 l D cI cZ cO aN dn 0 ) gX5_beginAnew_J7_fill_53178 rfl zd_J7_fill_53178 rfl (by decide) rfl (by decide) rfl rfl rfl (by decide) (by decide) dX5_beginAnew_20 ?_
  refine z_aload_n C 0 dX5_beginAnew_23 rfl ?_
  refine z_get C 0 6 zi_X5_beginAnew_X5 rfl rfl (by decide) zl_X5_beginAnew_22 rfl rfl dX5_beginAnew_24 ?_
  refine z_iconst C 0 dX5_beginAnew_27 ?_
  refine z_callSv C [3] [(hW, .inr (5, [.int (z_I t), .int (z_I k), .int (z_I 0), .int (z_I 0), .ref aD, .ref aN, .ref aU])), (aD, z_ai cI 5 dl), (aN, z_ai cI 5 (fun _ => 0)), (aU, z_ai cI 105 (fun _ => 0))] [.ref aU, .int (z_I 0)] [] (c_J7_fill_53178_105 l D cI cZ cO aU du 0 ) gX5_beginAnew_J7_fill_53178 rfl zd_J7_fill_53178 rfl (by decide) rfl (by decide) rfl rfl rfl (by decide) (by decide) dX5_beginAnew_28 ?_
  exact z_vret C hQ rfl dX5_beginAnew_31
theorem zi_X3_copyFrom_X3 : ∀ w ∈ u_ws RX3 TX3 5, w ∈ wsX3_copyFrom := by decide +kernel
theorem zl_X3_copyFrom_15 : Cond.fieldLink RX3 15 "RippleCounts$Readings" "times" "[I" ∈ wsX3_copyFrom := by decide +kernel
theorem zl_X3_copyFrom_18 : Cond.fieldLink RX3 18 "RippleCounts$Readings" "counts" "[I" ∈ wsX3_copyFrom := by decide +kernel
theorem zl_X3_copyFrom_21 : Cond.fieldLink RX3 21 "RippleCounts$Readings" "latched" "[Z" ∈ wsX3_copyFrom := by decide +kernel
theorem zl_X3_copyFrom_25 : Cond.fieldLink RX3 25 "RippleCounts$Readings" "size" "I" ∈ wsX3_copyFrom := by decide +kernel
theorem zl_X3_copyFrom_29i : Cond.initialized "java/lang/System" ∈ wsX3_copyFrom := by decide +kernel
theorem zl_X3_copyFrom_29k : Cond.methodLink RX3 29 arraycopyName ∈ wsX3_copyFrom := by decide +kernel
theorem zl_X3_copyFrom_29n : Cond.native arraycopyName ∈ wsX3_copyFrom := by decide +kernel
theorem zl_X3_copyFrom_29s : Cond.static arraycopyName ∈ wsX3_copyFrom := by decide +kernel
theorem zl_X3_copyFrom_9 : Cond.fieldLink RX3 9 "RippleCounts$Readings" "numbers" "[I" ∈ wsX3_copyFrom := by decide +kernel
theorem zd_X3_copyFrom : yX3_copyFrom.cls ≠ "java/lang/invoke/MethodHandle" ∧ yX3_copyFrom.cls ≠ "java/lang/invoke/VarHandle" ∧ (parseMethodDescriptor yX3_copyFrom.desc).map (fun d => d.parameters.length) = some 1 := by decide +kernel
set_option maxHeartbeats 4000000 in
set_option maxRecDepth 100000 in
theorem c_X3_copyFrom (l : Launch) (D : va_G) (cI cZ cO : ClassId) (hR aR1 aR2 aR3 aR4 : Nat) (rn : Int) (nu ti co la : Int → Int) (hRo aR1o aR2o aR3o aR4o : Nat) (rno : Int) (nuo tio coo lao : Int → Int) (hla : ∀ i : Int, 0 ≤ i → i < 99 → lao i = 0 ∨ lao i = 1) : z_Mv l yX3_copyFrom wsX3_copyFrom 1 40 D (z_T cI cZ cO) [.ref hR, .ref hRo] [(hR, .inr (3, [.int (z_I rn), .ref aR1, .ref aR2, .ref aR3, .ref aR4])), (aR1, z_ai cI 99 nu), (aR2, z_ai cI 99 ti), (aR3, z_ai cI 99 co), (aR4, z_ai cZ 99 la), (hRo, .inr (3, [.int (z_I rno), .ref aR1o, .ref aR2o, .ref aR3o, .ref aR4o])), (aR1o, z_ai cI 99 nuo), (aR2o, z_ai cI 99 tio), (aR3o, z_ai cI 99 coo), (aR4o, z_ai cZ 99 lao)] [(hR, .inr (3, [.int (z_I rno), .ref aR1, .ref aR2, .ref aR3, .ref aR4])), (aR1, z_ai cI 99 nuo), (aR2, z_ai cI 99 tio), (aR3, z_ai cI 99 coo), (aR4, z_ai cZ 99 lao), (hRo, .inr (3, [.int (z_I rno), .ref aR1o, .ref aR2o, .ref aR3o, .ref aR4o])), (aR1o, z_ai cI 99 nuo), (aR2o, z_ai cI 99 tio), (aR3o, z_ai cI 99 coo), (aR4o, z_ai cZ 99 lao)] := by
  refine z_Mv_of (cc := cX3_copyFrom) (nL := 2) (ret := none) (by decide +kernel) rfl (Nat.le_of_ble_eq_true rfl) ?_
  intro p e s m args below meth c A Q C hQ
  change z_V p l e { frames := 1, cells := 0, slots := 0, locals := 40 } s m args below meth c D A 2 0 0 Q [(hR, .inr (3, [.int (z_I rn), .ref aR1, .ref aR2, .ref aR3, .ref aR4])), (aR1, z_ai cI 99 nu), (aR2, z_ai cI 99 ti), (aR3, z_ai cI 99 co), (aR4, z_ai cZ 99 la), (hRo, .inr (3, [.int (z_I rno), .ref aR1o, .ref aR2o, .ref aR3o, .ref aR4o])), (aR1o, z_ai cI 99 nuo), (aR2o, z_ai cI 99 tio), (aR3o, z_ai cI 99 coo), (aR4o, z_ai cZ 99 lao)] 0 [(0, .ref hR), (1, .ref hRo)] []
  refine z_aload_n C 0 dX3_copyFrom_0 rfl ?_
  refine z_aload_n C 1 dX3_copyFrom_1 rfl ?_
  refine z_get C 5 0 zi_X3_copyFrom_X3 rfl rfl (by decide) zl_X3_copyFrom_25 rfl rfl dX3_copyFrom_2 ?_
  refine z_put C 0 0 [(hR, .inr (3, [.int (z_I rno), .ref aR1, .ref aR2, .ref aR3, .ref aR4])), (aR1, z_ai cI 99 nu), (aR2, z_ai cI 99 ti), (aR3, z_ai cI 99 co), (aR4, z_ai cZ 99 la), (hRo, .inr (3, [.int (z_I rno), .ref aR1o, .ref aR2o, .ref aR3o, .ref aR4o])), (aR1o, z_ai cI 99 nuo), (aR2o, z_ai cI 99 tio), (aR3o, z_ai cI 99 coo), (aR4o, z_ai cZ 99 lao)] zi_X3_copyFrom_X3 tyX3_ok nmX3 rfl rfl (by decide) zl_X3_copyFrom_25 rfl rfl rfl rfl (Nat.le_of_ble_eq_true rfl) rfl dX3_copyFrom_5 ?_
  refine z_aload_n C 1 dX3_copyFrom_8 rfl ?_
  refine z_get C 5 1 zi_X3_copyFrom_X3 rfl rfl (by decide) zl_X3_copyFrom_9 rfl rfl dX3_copyFrom_9 ?_
  refine z_iconst C 0 dX3_copyFrom_12 ?_
  refine z_aload_n C 0 dX3_copyFrom_13 rfl ?_
  refine z_get C 0 1 zi_X3_copyFrom_X3 rfl rfl (by decide) zl_X3_copyFrom_9 rfl rfl dX3_copyFrom_14 ?_
  refine z_iconst C 0 dX3_copyFrom_17 ?_
  refine z_bipush C 99 dX3_copyFrom_18 (by decide) ?_
  refine z_copy C 6 1 0 [(hR, .inr (3, [.int (z_I rno), .ref aR1, .ref aR2, .ref aR3, .ref aR4])), (aR1, z_ai cI 99 (z_cp nuo nu 0 0 99)), (aR2, z_ai cI 99 ti), (aR3, z_ai cI 99 co), (aR4, z_ai cZ 99 la), (hRo, .inr (3, [.int (z_I rno), .ref aR1o, .ref aR2o, .ref aR3o, .ref aR4o])), (aR1o, z_ai cI 99 nuo), (aR2o, z_ai cI 99 tio), (aR3o, z_ai cI 99 coo), (aR4o, z_ai cZ 99 lao)] .int zl_X3_copyFrom_29k zl_X3_copyFrom_29n zl_X3_copyFrom_29s zl_X3_copyFrom_29i rfl rfl rfl rfl (by omega) (fun _ _ _ => rfl) (by decide) rfl dX3_copyFrom_20 ?_
  refine z_arr (c := c) 1 nuo [(hR, .inr (3, [.int (z_I rno), .ref aR1, .ref aR2, .ref aR3, .ref aR4])), (aR1, z_ai cI 99 nuo), (aR2, z_ai cI 99 ti), (aR3, z_ai cI 99 co), (aR4, z_ai cZ 99 la), (hRo, .inr (3, [.int (z_I rno), .ref aR1o, .ref aR2o, .ref aR3o, .ref aR4o])), (aR1o, z_ai cI 99 nuo), (aR2o, z_ai cI 99 tio), (aR3o, z_ai cI 99 coo), (aR4o, z_ai cZ 99 lao)] rfl (fun i h1 h2 => z_cp_full h1 (by omega)) rfl ?_
  refine z_aload_n C 1 dX3_copyFrom_23 rfl ?_
  refine z_get C 5 2 zi_X3_copyFrom_X3 rfl rfl (by decide) zl_X3_copyFrom_15 rfl rfl dX3_copyFrom_24 ?_
  refine z_iconst C 0 dX3_copyFrom_27 ?_
  refine z_aload_n C 0 dX3_copyFrom_28 rfl ?_
  refine z_get C 0 2 zi_X3_copyFrom_X3 rfl rfl (by decide) zl_X3_copyFrom_15 rfl rfl dX3_copyFrom_29 ?_
  refine z_iconst C 0 dX3_copyFrom_32 ?_
  refine z_bipush C 99 dX3_copyFrom_33 (by decide) ?_
  refine z_copy C 7 2 0 [(hR, .inr (3, [.int (z_I rno), .ref aR1, .ref aR2, .ref aR3, .ref aR4])), (aR1, z_ai cI 99 nuo), (aR2, z_ai cI 99 (z_cp tio ti 0 0 99)), (aR3, z_ai cI 99 co), (aR4, z_ai cZ 99 la), (hRo, .inr (3, [.int (z_I rno), .ref aR1o, .ref aR2o, .ref aR3o, .ref aR4o])), (aR1o, z_ai cI 99 nuo), (aR2o, z_ai cI 99 tio), (aR3o, z_ai cI 99 coo), (aR4o, z_ai cZ 99 lao)] .int zl_X3_copyFrom_29k zl_X3_copyFrom_29n zl_X3_copyFrom_29s zl_X3_copyFrom_29i rfl rfl rfl rfl (by omega) (fun _ _ _ => rfl) (by decide) rfl dX3_copyFrom_35 ?_
  refine z_arr (c := c) 2 tio [(hR, .inr (3, [.int (z_I rno), .ref aR1, .ref aR2, .ref aR3, .ref aR4])), (aR1, z_ai cI 99 nuo), (aR2, z_ai cI 99 tio), (aR3, z_ai cI 99 co), (aR4, z_ai cZ 99 la), (hRo, .inr (3, [.int (z_I rno), .ref aR1o, .ref aR2o, .ref aR3o, .ref aR4o])), (aR1o, z_ai cI 99 nuo), (aR2o, z_ai cI 99 tio), (aR3o, z_ai cI 99 coo), (aR4o, z_ai cZ 99 lao)] rfl (fun i h1 h2 => z_cp_full h1 (by omega)) rfl ?_
  refine z_aload_n C 1 dX3_copyFrom_38 rfl ?_
  refine z_get C 5 3 zi_X3_copyFrom_X3 rfl rfl (by decide) zl_X3_copyFrom_18 rfl rfl dX3_copyFrom_39 ?_
  refine z_iconst C 0 dX3_copyFrom_42 ?_
  refine z_aload_n C 0 dX3_copyFrom_43 rfl ?_
  refine z_get C 0 3 zi_X3_copyFrom_X3 rfl rfl (by decide) zl_X3_copyFrom_18 rfl rfl dX3_copyFrom_44 ?_
  refine z_iconst C 0 dX3_copyFrom_47 ?_
  refine z_bipush C 99 dX3_copyFrom_48 (by decide) ?_
  refine z_copy C 8 3 0 [(hR, .inr (3, [.int (z_I rno), .ref aR1, .ref aR2, .ref aR3, .ref aR4])), (aR1, z_ai cI 99 nuo), (aR2, z_ai cI 99 tio), (aR3, z_ai cI 99 (z_cp coo co 0 0 99)), (aR4, z_ai cZ 99 la), (hRo, .inr (3, [.int (z_I rno), .ref aR1o, .ref aR2o, .ref aR3o, .ref aR4o])), (aR1o, z_ai cI 99 nuo), (aR2o, z_ai cI 99 tio), (aR3o, z_ai cI 99 coo), (aR4o, z_ai cZ 99 lao)] .int zl_X3_copyFrom_29k zl_X3_copyFrom_29n zl_X3_copyFrom_29s zl_X3_copyFrom_29i rfl rfl rfl rfl (by omega) (fun _ _ _ => rfl) (by decide) rfl dX3_copyFrom_50 ?_
  refine z_arr (c := c) 3 coo [(hR, .inr (3, [.int (z_I rno), .ref aR1, .ref aR2, .ref aR3, .ref aR4])), (aR1, z_ai cI 99 nuo), (aR2, z_ai cI 99 tio), (aR3, z_ai cI 99 coo), (aR4, z_ai cZ 99 la), (hRo, .inr (3, [.int (z_I rno), .ref aR1o, .ref aR2o, .ref aR3o, .ref aR4o])), (aR1o, z_ai cI 99 nuo), (aR2o, z_ai cI 99 tio), (aR3o, z_ai cI 99 coo), (aR4o, z_ai cZ 99 lao)] rfl (fun i h1 h2 => z_cp_full h1 (by omega)) rfl ?_
  refine z_aload_n C 1 dX3_copyFrom_53 rfl ?_
  refine z_get C 5 4 zi_X3_copyFrom_X3 rfl rfl (by decide) zl_X3_copyFrom_21 rfl rfl dX3_copyFrom_54 ?_
  refine z_iconst C 0 dX3_copyFrom_57 ?_
  refine z_aload_n C 0 dX3_copyFrom_58 rfl ?_
  refine z_get C 0 4 zi_X3_copyFrom_X3 rfl rfl (by decide) zl_X3_copyFrom_21 rfl rfl dX3_copyFrom_59 ?_
  refine z_iconst C 0 dX3_copyFrom_62 ?_
  refine z_bipush C 99 dX3_copyFrom_63 (by decide) ?_
  refine z_copy C 9 4 1 [(hR, .inr (3, [.int (z_I rno), .ref aR1, .ref aR2, .ref aR3, .ref aR4])), (aR1, z_ai cI 99 nuo), (aR2, z_ai cI 99 tio), (aR3, z_ai cI 99 coo), (aR4, z_ai cZ 99 (z_cp lao la 0 0 99)), (hRo, .inr (3, [.int (z_I rno), .ref aR1o, .ref aR2o, .ref aR3o, .ref aR4o])), (aR1o, z_ai cI 99 nuo), (aR2o, z_ai cI 99 tio), (aR3o, z_ai cI 99 coo), (aR4o, z_ai cZ 99 lao)] .boolean zl_X3_copyFrom_29k zl_X3_copyFrom_29n zl_X3_copyFrom_29s zl_X3_copyFrom_29i rfl rfl rfl rfl (by omega) (fun i h1 h2 => z_fitZ (hla (0 + i) (by omega) (by omega))) (by decide) rfl dX3_copyFrom_65 ?_
  refine z_arr (c := c) 4 lao [(hR, .inr (3, [.int (z_I rno), .ref aR1, .ref aR2, .ref aR3, .ref aR4])), (aR1, z_ai cI 99 nuo), (aR2, z_ai cI 99 tio), (aR3, z_ai cI 99 coo), (aR4, z_ai cZ 99 lao), (hRo, .inr (3, [.int (z_I rno), .ref aR1o, .ref aR2o, .ref aR3o, .ref aR4o])), (aR1o, z_ai cI 99 nuo), (aR2o, z_ai cI 99 tio), (aR3o, z_ai cI 99 coo), (aR4o, z_ai cZ 99 lao)] rfl (fun i h1 h2 => z_cp_full h1 (by omega)) rfl ?_
  exact z_vret C hQ rfl dX3_copyFrom_68
theorem zi_X3_clear_X3 : ∀ w ∈ u_ws RX3 TX3 5, w ∈ wsX3_clear := by decide +kernel
theorem zl_X3_clear_25 : Cond.fieldLink RX3 25 "RippleCounts$Readings" "size" "I" ∈ wsX3_clear := by decide +kernel
theorem zd_X3_clear : yX3_clear.cls ≠ "java/lang/invoke/MethodHandle" ∧ yX3_clear.cls ≠ "java/lang/invoke/VarHandle" ∧ (parseMethodDescriptor yX3_clear.desc).map (fun d => d.parameters.length) = some 0 := by decide +kernel
set_option maxHeartbeats 4000000 in
set_option maxRecDepth 100000 in
theorem c_X3_clear (l : Launch) (D : va_G) (cI cZ cO : ClassId) (hR aR1 aR2 aR3 aR4 : Nat) (rn : Int) (nu ti co la : Int → Int) : z_Mv l yX3_clear wsX3_clear 0 0 D (z_T cI cZ cO) [.ref hR] [(hR, .inr (3, [.int (z_I rn), .ref aR1, .ref aR2, .ref aR3, .ref aR4])), (aR1, z_ai cI 99 nu), (aR2, z_ai cI 99 ti), (aR3, z_ai cI 99 co), (aR4, z_ai cZ 99 la)] [(hR, .inr (3, [.int (z_I 0), .ref aR1, .ref aR2, .ref aR3, .ref aR4])), (aR1, z_ai cI 99 nu), (aR2, z_ai cI 99 ti), (aR3, z_ai cI 99 co), (aR4, z_ai cZ 99 la)] := by
  refine z_Mv_of (cc := cX3_clear) (nL := 1) (ret := none) (by decide +kernel) rfl (Nat.le_of_ble_eq_true rfl) ?_
  intro p e s m args below meth c A Q C hQ
  change z_V p l e { frames := 0, cells := 0, slots := 0, locals := 0 } s m args below meth c D A 1 0 0 Q [(hR, .inr (3, [.int (z_I rn), .ref aR1, .ref aR2, .ref aR3, .ref aR4])), (aR1, z_ai cI 99 nu), (aR2, z_ai cI 99 ti), (aR3, z_ai cI 99 co), (aR4, z_ai cZ 99 la)] 0 [(0, .ref hR)] []
  refine z_aload_n C 0 dX3_clear_0 rfl ?_
  refine z_iconst C 0 dX3_clear_1 ?_
  refine z_put C 0 0 [(hR, .inr (3, [.int (z_I 0), .ref aR1, .ref aR2, .ref aR3, .ref aR4])), (aR1, z_ai cI 99 nu), (aR2, z_ai cI 99 ti), (aR3, z_ai cI 99 co), (aR4, z_ai cZ 99 la)] zi_X3_clear_X3 tyX3_ok nmX3 rfl rfl (by decide) zl_X3_clear_25 rfl rfl rfl rfl (Nat.le_of_ble_eq_true rfl) rfl dX3_clear_2 ?_
  exact z_vret C hQ rfl dX3_clear_5
theorem zi_X3_add_X3 : ∀ w ∈ u_ws RX3 TX3 5, w ∈ wsX3_add := by decide +kernel
theorem zl_X3_add_15 : Cond.fieldLink RX3 15 "RippleCounts$Readings" "times" "[I" ∈ wsX3_add := by decide +kernel
theorem zl_X3_add_18 : Cond.fieldLink RX3 18 "RippleCounts$Readings" "counts" "[I" ∈ wsX3_add := by decide +kernel
theorem zl_X3_add_21 : Cond.fieldLink RX3 21 "RippleCounts$Readings" "latched" "[Z" ∈ wsX3_add := by decide +kernel
theorem zl_X3_add_25 : Cond.fieldLink RX3 25 "RippleCounts$Readings" "size" "I" ∈ wsX3_add := by decide +kernel
theorem zl_X3_add_9 : Cond.fieldLink RX3 9 "RippleCounts$Readings" "numbers" "[I" ∈ wsX3_add := by decide +kernel
theorem zd_X3_add : yX3_add.cls ≠ "java/lang/invoke/MethodHandle" ∧ yX3_add.cls ≠ "java/lang/invoke/VarHandle" ∧ (parseMethodDescriptor yX3_add.desc).map (fun d => d.parameters.length) = some 4 := by decide +kernel
set_option maxHeartbeats 4000000 in
set_option maxRecDepth 100000 in
theorem c_X3_add (l : Launch) (D : va_G) (cI cZ cO : ClassId) (hR aR1 aR2 aR3 aR4 : Nat) (rn : Int) (nu ti co la : Int → Int) (nb tm cn lt : Int) (hn : 0 ≤ rn ∧ rn < 99) (hlt : lt = 0 ∨ lt = 1) : z_Mv l yX3_add wsX3_add 0 0 D (z_T cI cZ cO) [.ref hR, .int (z_I nb), .int (z_I tm), .int (z_I cn), .int (z_I lt)] [(hR, .inr (3, [.int (z_I rn), .ref aR1, .ref aR2, .ref aR3, .ref aR4])), (aR1, z_ai cI 99 nu), (aR2, z_ai cI 99 ti), (aR3, z_ai cI 99 co), (aR4, z_ai cZ 99 la)] [(hR, .inr (3, [.int (z_I (rn + 1)), .ref aR1, .ref aR2, .ref aR3, .ref aR4])), (aR1, z_ai cI 99 (z_u nu rn nb)), (aR2, z_ai cI 99 (z_u ti rn tm)), (aR3, z_ai cI 99 (z_u co rn cn)), (aR4, z_ai cZ 99 (z_u la rn lt))] := by
  refine z_Mv_of (cc := cX3_add) (nL := 5) (ret := none) (by decide +kernel) rfl (Nat.le_of_ble_eq_true rfl) ?_
  intro p e s m args below meth c A Q C hQ
  change z_V p l e { frames := 0, cells := 0, slots := 0, locals := 0 } s m args below meth c D A 5 0 0 Q [(hR, .inr (3, [.int (z_I rn), .ref aR1, .ref aR2, .ref aR3, .ref aR4])), (aR1, z_ai cI 99 nu), (aR2, z_ai cI 99 ti), (aR3, z_ai cI 99 co), (aR4, z_ai cZ 99 la)] 0 [(0, .ref hR), (1, .int (z_I nb)), (2, .int (z_I tm)), (3, .int (z_I cn)), (4, .int (z_I lt))] []
  refine z_aload_n C 0 dX3_add_0 rfl ?_
  refine z_get C 0 0 zi_X3_add_X3 rfl rfl (by decide) zl_X3_add_25 rfl rfl dX3_add_1 ?_
  refine z_bipush C 99 dX3_add_4 (by decide) ?_
  refine z_icmp_lt C 10 dX3_add_6 (by decide) (by omega) (by omega) (fun hc1 => ?_) (fun hc1 => ?_)
  · skip
    refine z_aload_n C 0 dX3_add_10 rfl ?_
    refine z_get C 0 1 zi_X3_add_X3 rfl rfl (by decide) zl_X3_add_9 rfl rfl dX3_add_11 ?_
    refine z_aload_n C 0 dX3_add_14 rfl ?_
    refine z_get C 0 0 zi_X3_add_X3 rfl rfl (by decide) zl_X3_add_25 rfl rfl dX3_add_15 ?_
    refine z_iload_n C 1 dX3_add_18 rfl ?_
    refine z_iast C 1 0 [(hR, .inr (3, [.int (z_I rn), .ref aR1, .ref aR2, .ref aR3, .ref aR4])), (aR1, z_ai cI 99 (z_u nu rn nb)), (aR2, z_ai cI 99 ti), (aR3, z_ai cI 99 co), (aR4, z_ai cZ 99 la)] rfl rfl (by decide) (by omega) rfl dX3_add_19 ?_
    refine z_aload_n C 0 dX3_add_20 rfl ?_
    refine z_get C 0 2 zi_X3_add_X3 rfl rfl (by decide) zl_X3_add_15 rfl rfl dX3_add_21 ?_
    refine z_aload_n C 0 dX3_add_24 rfl ?_
    refine z_get C 0 0 zi_X3_add_X3 rfl rfl (by decide) zl_X3_add_25 rfl rfl dX3_add_25 ?_
    refine z_iload_n C 2 dX3_add_28 rfl ?_
    refine z_iast C 2 0 [(hR, .inr (3, [.int (z_I rn), .ref aR1, .ref aR2, .ref aR3, .ref aR4])), (aR1, z_ai cI 99 (z_u nu rn nb)), (aR2, z_ai cI 99 (z_u ti rn tm)), (aR3, z_ai cI 99 co), (aR4, z_ai cZ 99 la)] rfl rfl (by decide) (by omega) rfl dX3_add_29 ?_
    refine z_aload_n C 0 dX3_add_30 rfl ?_
    refine z_get C 0 3 zi_X3_add_X3 rfl rfl (by decide) zl_X3_add_18 rfl rfl dX3_add_31 ?_
    refine z_aload_n C 0 dX3_add_34 rfl ?_
    refine z_get C 0 0 zi_X3_add_X3 rfl rfl (by decide) zl_X3_add_25 rfl rfl dX3_add_35 ?_
    refine z_iload_n C 3 dX3_add_38 rfl ?_
    refine z_iast C 3 0 [(hR, .inr (3, [.int (z_I rn), .ref aR1, .ref aR2, .ref aR3, .ref aR4])), (aR1, z_ai cI 99 (z_u nu rn nb)), (aR2, z_ai cI 99 (z_u ti rn tm)), (aR3, z_ai cI 99 (z_u co rn cn)), (aR4, z_ai cZ 99 la)] rfl rfl (by decide) (by omega) rfl dX3_add_39 ?_
    refine z_aload_n C 0 dX3_add_40 rfl ?_
    refine z_get C 0 4 zi_X3_add_X3 rfl rfl (by decide) zl_X3_add_21 rfl rfl dX3_add_41 ?_
    refine z_aload_n C 0 dX3_add_44 rfl ?_
    refine z_get C 0 0 zi_X3_add_X3 rfl rfl (by decide) zl_X3_add_25 rfl rfl dX3_add_45 ?_
    refine z_iload C 4 dX3_add_48 rfl ?_
    refine z_zast C 4 1 [(hR, .inr (3, [.int (z_I rn), .ref aR1, .ref aR2, .ref aR3, .ref aR4])), (aR1, z_ai cI 99 (z_u nu rn nb)), (aR2, z_ai cI 99 (z_u ti rn tm)), (aR3, z_ai cI 99 (z_u co rn cn)), (aR4, z_ai cZ 99 (z_u la rn lt))] rfl rfl (by decide) (by omega) (z_narZ hlt) rfl dX3_add_50 ?_
    refine z_aload_n C 0 dX3_add_51 rfl ?_
    refine z_dup C dX3_add_52 rfl ?_
    refine z_get C 0 0 zi_X3_add_X3 rfl rfl (by decide) zl_X3_add_25 rfl rfl dX3_add_53 ?_
    refine z_iconst C 1 dX3_add_56 ?_
    refine z_iadd C dX3_add_57 ?_
    refine z_put C 0 0 [(hR, .inr (3, [.int (z_I (rn + 1)), .ref aR1, .ref aR2, .ref aR3, .ref aR4])), (aR1, z_ai cI 99 (z_u nu rn nb)), (aR2, z_ai cI 99 (z_u ti rn tm)), (aR3, z_ai cI 99 (z_u co rn cn)), (aR4, z_ai cZ 99 (z_u la rn lt))] zi_X3_add_X3 tyX3_ok nmX3 rfl rfl (by decide) zl_X3_add_25 rfl rfl rfl rfl (Nat.le_of_ble_eq_true rfl) rfl dX3_add_58 ?_
    exact z_vret C hQ rfl dX3_add_61
  · exfalso; omega
theorem zi_X3_isTrue_X3 : ∀ w ∈ u_ws RX3 TX3 5, w ∈ wsX3_isTrue := by decide +kernel
theorem zl_X3_isTrue_18 : Cond.fieldLink RX3 18 "RippleCounts$Readings" "counts" "[I" ∈ wsX3_isTrue := by decide +kernel
theorem zl_X3_isTrue_9 : Cond.fieldLink RX3 9 "RippleCounts$Readings" "numbers" "[I" ∈ wsX3_isTrue := by decide +kernel
theorem zd_X3_isTrue : yX3_isTrue.cls ≠ "java/lang/invoke/MethodHandle" ∧ yX3_isTrue.cls ≠ "java/lang/invoke/VarHandle" ∧ (parseMethodDescriptor yX3_isTrue.desc).map (fun d => d.parameters.length) = some 1 := by decide +kernel
set_option maxHeartbeats 4000000 in
set_option maxRecDepth 100000 in
theorem c_X3_isTrue (l : Launch) (D : va_G) (cI cZ cO : ClassId) (hR aR1 aR2 aR3 aR4 : Nat) (rn : Int) (nu ti co la : Int → Int) (k : Int) (hk : 0 ≤ k ∧ k < 99) (hnu : 0 ≤ nu k ∧ nu k < 1000000) (hco : 0 ≤ co k ∧ co k < 1000000) : z_Mi l yX3_isTrue wsX3_isTrue 0 0 D (z_T cI cZ cO) [.ref hR, .int (z_I k)] [(hR, .inr (3, [.int (z_I rn), .ref aR1, .ref aR2, .ref aR3, .ref aR4])), (aR1, z_ai cI 99 nu), (aR2, z_ai cI 99 ti), (aR3, z_ai cI 99 co), (aR4, z_ai cZ 99 la)] [(hR, .inr (3, [.int (z_I rn), .ref aR1, .ref aR2, .ref aR3, .ref aR4])), (aR1, z_ai cI 99 nu), (aR2, z_ai cI 99 ti), (aR3, z_ai cI 99 co), (aR4, z_ai cZ 99 la)] (if nu k = co k then 1 else 0) := by
  refine z_Mi_of (cc := cX3_isTrue) (nL := 2) (ret := (some .boolean)) (by decide +kernel) rfl (Nat.le_of_ble_eq_true rfl) ?_
  intro p e s m args below meth c A Q C hQ
  change z_V p l e { frames := 0, cells := 0, slots := 0, locals := 0 } s m args below meth c D A 2 0 0 Q [(hR, .inr (3, [.int (z_I rn), .ref aR1, .ref aR2, .ref aR3, .ref aR4])), (aR1, z_ai cI 99 nu), (aR2, z_ai cI 99 ti), (aR3, z_ai cI 99 co), (aR4, z_ai cZ 99 la)] 0 [(0, .ref hR), (1, .int (z_I k))] []
  refine z_aload_n C 0 dX3_isTrue_0 rfl ?_
  refine z_get C 0 1 zi_X3_isTrue_X3 rfl rfl (by decide) zl_X3_isTrue_9 rfl rfl dX3_isTrue_1 ?_
  refine z_iload_n C 1 dX3_isTrue_4 rfl ?_
  refine z_iald C 1 0 rfl rfl (by decide) (by omega) dX3_isTrue_5 ?_
  refine z_aload_n C 0 dX3_isTrue_6 rfl ?_
  refine z_get C 0 3 zi_X3_isTrue_X3 rfl rfl (by decide) zl_X3_isTrue_18 rfl rfl dX3_isTrue_7 ?_
  refine z_iload_n C 1 dX3_isTrue_10 rfl ?_
  refine z_iald C 3 0 rfl rfl (by decide) (by omega) dX3_isTrue_11 ?_
  refine z_icmp_ne C 19 dX3_isTrue_12 (by decide) (by omega) (by omega) (fun hc1 => ?_) (fun hc1 => ?_)
  · skip
    refine z_iconst C 0 dX3_isTrue_19 ?_
    exact z_zret C hQ rfl (by first | rfl | omega | ((repeat' split) <;> omega)) (by omega) dX3_isTrue_20
  · skip
    refine z_iconst C 1 dX3_isTrue_15 ?_
    refine z_goto C 20 dX3_isTrue_16 (by decide) ?_
    exact z_zret C hQ rfl (by first | rfl | omega | ((repeat' split) <;> omega)) (by omega) dX3_isTrue_20
theorem zi_X3_tell_X3 : ∀ w ∈ u_ws RX3 TX3 5, w ∈ wsX3_tell := by decide +kernel
theorem zl_X3_tell_15 : Cond.fieldLink RX3 15 "RippleCounts$Readings" "times" "[I" ∈ wsX3_tell := by decide +kernel
theorem zl_X3_tell_18 : Cond.fieldLink RX3 18 "RippleCounts$Readings" "counts" "[I" ∈ wsX3_tell := by decide +kernel
theorem zl_X3_tell_21 : Cond.fieldLink RX3 21 "RippleCounts$Readings" "latched" "[Z" ∈ wsX3_tell := by decide +kernel
theorem zl_X3_tell_25 : Cond.fieldLink RX3 25 "RippleCounts$Readings" "size" "I" ∈ wsX3_tell := by decide +kernel
theorem zl_X3_tell_9 : Cond.fieldLink RX3 9 "RippleCounts$Readings" "numbers" "[I" ∈ wsX3_tell := by decide +kernel
theorem zd_X3_tell : yX3_tell.cls ≠ "java/lang/invoke/MethodHandle" ∧ yX3_tell.cls ≠ "java/lang/invoke/VarHandle" ∧ (parseMethodDescriptor yX3_tell.desc).map (fun d => d.parameters.length) = some 2 := by decide +kernel
set_option maxHeartbeats 4000000 in
set_option maxRecDepth 100000 in
theorem c_X3_tell (l : Launch) (D : va_G) (cI cZ cO : ClassId) (hR aR1 aR2 aR3 aR4 : Nat) (rn : Int) (nu ti co la : Int → Int) (k w : Int) (hk : -2147483648 ≤ k ∧ k < 2147483648) (hw : -2147483648 ≤ w ∧ w < 2147483648) (hn : 0 ≤ rn ∧ rn ≤ 99) (hnu : ∀ i : Int, 0 ≤ i → i < rn → (0 ≤ nu i ∧ nu i < 1000000) ∧ (0 ≤ co i ∧ co i < 1000000) ∧ (la i = 0 ∨ la i = 1)) : z_Mi l yX3_tell wsX3_tell 1 21 D (z_T cI cZ cO) [.ref hR, .int (z_I k), .int (z_I w)] [(hR, .inr (3, [.int (z_I rn), .ref aR1, .ref aR2, .ref aR3, .ref aR4])), (aR1, z_ai cI 99 nu), (aR2, z_ai cI 99 ti), (aR3, z_ai cI 99 co), (aR4, z_ai cZ 99 la)] [(hR, .inr (3, [.int (z_I rn), .ref aR1, .ref aR2, .ref aR3, .ref aR4])), (aR1, z_ai cI 99 nu), (aR2, z_ai cI 99 ti), (aR3, z_ai cI 99 co), (aR4, z_ai cZ 99 la)] (if 0 ≤ k ∧ k < rn then (if w = 0 then nu k else if w = 1 then ti k else if w = 2 then co k else if w = 3 then (if la k = 0 then 0 else 1) else if w = 4 then (if nu k = co k then 1 else 0) else -2) else -1) := by
  refine z_Mi_of (cc := cX3_tell) (nL := 3) (ret := (some .int)) (by decide +kernel) rfl (Nat.le_of_ble_eq_true rfl) ?_
  intro p e s m args below meth c A Q C hQ
  change z_V p l e { frames := 1, cells := 0, slots := 0, locals := 21 } s m args below meth c D A 3 0 0 Q [(hR, .inr (3, [.int (z_I rn), .ref aR1, .ref aR2, .ref aR3, .ref aR4])), (aR1, z_ai cI 99 nu), (aR2, z_ai cI 99 ti), (aR3, z_ai cI 99 co), (aR4, z_ai cZ 99 la)] 0 [(0, .ref hR), (1, .int (z_I k)), (2, .int (z_I w))] []
  refine z_iload_n C 1 dX3_tell_0 rfl ?_
  refine z_if_lt C 12 dX3_tell_1 (by decide) (by omega) (fun hc1 => ?_) (fun hc1 => ?_)
  · skip
    refine z_iconst C (-1) dX3_tell_12 ?_
    exact z_iret C hQ rfl (by first | rfl | omega | ((repeat' split) <;> omega)) dX3_tell_13
  · skip
    refine z_iload_n C 1 dX3_tell_4 rfl ?_
    refine z_aload_n C 0 dX3_tell_5 rfl ?_
    refine z_get C 0 0 zi_X3_tell_X3 rfl rfl (by decide) zl_X3_tell_25 rfl rfl dX3_tell_6 ?_
    refine z_icmp_lt C 14 dX3_tell_9 (by decide) (by omega) (by omega) (fun hc2 => ?_) (fun hc2 => ?_)
    · skip
      have hM := hnu k (by omega) (by omega)
      refine z_iload_n C 2 dX3_tell_14 rfl ?_
      by_cases hc3 : w = 0
      · skip
        refine z_tabI C 48 0 dX3_tell_15 hc3 (by decide) rfl (by decide) ?_
        refine z_aload_n C 0 dX3_tell_48 rfl ?_
        refine z_get C 0 1 zi_X3_tell_X3 rfl rfl (by decide) zl_X3_tell_9 rfl rfl dX3_tell_49 ?_
        refine z_iload_n C 1 dX3_tell_52 rfl ?_
        refine z_iald C 1 0 rfl rfl (by decide) (by omega) dX3_tell_53 ?_
        exact z_iret C hQ rfl (by first | rfl | omega | ((repeat' split) <;> omega)) dX3_tell_54
      by_cases hc4 : w = 1
      · skip
        refine z_tabI C 55 1 dX3_tell_15 hc4 (by decide) rfl (by decide) ?_
        refine z_aload_n C 0 dX3_tell_55 rfl ?_
        refine z_get C 0 2 zi_X3_tell_X3 rfl rfl (by decide) zl_X3_tell_15 rfl rfl dX3_tell_56 ?_
        refine z_iload_n C 1 dX3_tell_59 rfl ?_
        refine z_iald C 2 0 rfl rfl (by decide) (by omega) dX3_tell_60 ?_
        exact z_iret C hQ rfl (by first | rfl | omega | ((repeat' split) <;> omega)) dX3_tell_61
      by_cases hc5 : w = 2
      · skip
        refine z_tabI C 62 2 dX3_tell_15 hc5 (by decide) rfl (by decide) ?_
        refine z_aload_n C 0 dX3_tell_62 rfl ?_
        refine z_get C 0 3 zi_X3_tell_X3 rfl rfl (by decide) zl_X3_tell_18 rfl rfl dX3_tell_63 ?_
        refine z_iload_n C 1 dX3_tell_66 rfl ?_
        refine z_iald C 3 0 rfl rfl (by decide) (by omega) dX3_tell_67 ?_
        exact z_iret C hQ rfl (by first | rfl | omega | ((repeat' split) <;> omega)) dX3_tell_68
      by_cases hc6 : w = 3
      · skip
        refine z_tabI C 69 3 dX3_tell_15 hc6 (by decide) rfl (by decide) ?_
        refine z_aload_n C 0 dX3_tell_69 rfl ?_
        refine z_get C 0 4 zi_X3_tell_X3 rfl rfl (by decide) zl_X3_tell_21 rfl rfl dX3_tell_70 ?_
        refine z_iload_n C 1 dX3_tell_73 rfl ?_
        refine z_zald C 4 1 rfl rfl (by decide) (by omega) dX3_tell_74 ?_
        refine z_if_eq C 82 dX3_tell_75 (by decide) (by omega) (fun hc7 => ?_) (fun hc7 => ?_)
        · skip
          refine z_iconst C 0 dX3_tell_82 ?_
          exact z_iret C hQ rfl (by first | rfl | omega | ((repeat' split) <;> omega)) dX3_tell_83
        · skip
          refine z_iconst C 1 dX3_tell_78 ?_
          refine z_goto C 83 dX3_tell_79 (by decide) ?_
          exact z_iret C hQ rfl (by first | rfl | omega | ((repeat' split) <;> omega)) dX3_tell_83
      by_cases hc8 : w = 4
      · skip
        refine z_tabI C 84 4 dX3_tell_15 hc8 (by decide) rfl (by decide) ?_
        refine z_aload_n C 0 dX3_tell_84 rfl ?_
        refine z_iload_n C 1 dX3_tell_85 rfl ?_
        refine z_callVi C [0, 1, 2, 3, 4] [(hR, .inr (3, [.int (z_I rn), .ref aR1, .ref aR2, .ref aR3, .ref aR4])), (aR1, z_ai cI 99 nu), (aR2, z_ai cI 99 ti), (aR3, z_ai cI 99 co), (aR4, z_ai cZ 99 la)] [.int (z_I k)] [] (c_X3_isTrue l D cI cZ cO hR aR1 aR2 aR3 aR4 rn nu ti co la k (by first | assumption | omega) (by first | assumption | omega) (by first | assumption | omega)) gX3_tell_X3_isTrue rfl zd_X3_isTrue rfl (by decide) rfl rfl rfl (by decide) rfl rfl rfl (by decide) (by decide) dX3_tell_86 ?_
        refine z_if_eq C 96 dX3_tell_89 (by decide) (by omega) (fun hc9 => ?_) (fun hc9 => ?_)
        · skip
          have hz := z_if0.mp hc9
          refine z_iconst C 0 dX3_tell_96 ?_
          exact z_iret C hQ rfl (by first | rfl | omega | ((repeat' split) <;> omega)) dX3_tell_97
        · skip
          have hz := z_if1.mp hc9
          refine z_iconst C 1 dX3_tell_92 ?_
          refine z_goto C 97 dX3_tell_93 (by decide) ?_
          exact z_iret C hQ rfl (by first | rfl | omega | ((repeat' split) <;> omega)) dX3_tell_97
      refine z_tabO C 98 dX3_tell_15 (by omega) (by omega) (by decide) ?_
      refine z_bipush C (-2) dX3_tell_98 (by decide) ?_
      exact z_iret C hQ rfl (by first | rfl | omega | ((repeat' split) <;> omega)) dX3_tell_100
    · skip
      refine z_iconst C (-1) dX3_tell_12 ?_
      exact z_iret C hQ rfl (by first | rfl | omega | ((repeat' split) <;> omega)) dX3_tell_13
theorem zi_X3_trueOnes_X3 : ∀ w ∈ u_ws RX3 TX3 5, w ∈ wsX3_trueOnes := by decide +kernel
theorem zl_X3_trueOnes_25 : Cond.fieldLink RX3 25 "RippleCounts$Readings" "size" "I" ∈ wsX3_trueOnes := by decide +kernel
theorem zd_X3_trueOnes : yX3_trueOnes.cls ≠ "java/lang/invoke/MethodHandle" ∧ yX3_trueOnes.cls ≠ "java/lang/invoke/VarHandle" ∧ (parseMethodDescriptor yX3_trueOnes.desc).map (fun d => d.parameters.length) = some 0 := by decide +kernel
set_option maxHeartbeats 4000000 in
set_option maxRecDepth 100000 in
theorem c_X3_trueOnes (l : Launch) (D : va_G) (cI cZ cO : ClassId) (hR aR1 aR2 aR3 aR4 : Nat) (rn : Int) (nu ti co la : Int → Int) (hn : 0 ≤ rn ∧ rn ≤ 99) (hnu : ∀ i : Int, 0 ≤ i → i < rn → (0 ≤ nu i ∧ nu i < 1000000) ∧ (0 ≤ co i ∧ co i < 1000000) ∧ (la i = 0 ∨ la i = 1)) : z_Mi l yX3_trueOnes wsX3_trueOnes 1 21 D (z_T cI cZ cO) [.ref hR] [(hR, .inr (3, [.int (z_I rn), .ref aR1, .ref aR2, .ref aR3, .ref aR4])), (aR1, z_ai cI 99 nu), (aR2, z_ai cI 99 ti), (aR3, z_ai cI 99 co), (aR4, z_ai cZ 99 la)] [(hR, .inr (3, [.int (z_I rn), .ref aR1, .ref aR2, .ref aR3, .ref aR4])), (aR1, z_ai cI 99 nu), (aR2, z_ai cI 99 ti), (aR3, z_ai cI 99 co), (aR4, z_ai cZ 99 la)] (z_it (fun j a => if nu j = co j then a + 1 else a) 0 rn.toNat) := by
  refine z_Mi_of (cc := cX3_trueOnes) (nL := 3) (ret := (some .int)) (by decide +kernel) rfl (Nat.le_of_ble_eq_true rfl) ?_
  intro p e s m args below meth c A Q C hQ
  change z_V p l e { frames := 1, cells := 0, slots := 0, locals := 21 } s m args below meth c D A 3 0 0 Q [(hR, .inr (3, [.int (z_I rn), .ref aR1, .ref aR2, .ref aR3, .ref aR4])), (aR1, z_ai cI 99 nu), (aR2, z_ai cI 99 ti), (aR3, z_ai cI 99 co), (aR4, z_ai cZ 99 la)] 0 [(0, .ref hR)] []
  refine z_iconst C 0 dX3_trueOnes_0 ?_
  refine z_istore_n C [(1, .int (z_I 0)), (0, .ref hR)] dX3_trueOnes_1 (by decide) rfl ?_
  refine z_iconst C 0 dX3_trueOnes_2 ?_
  refine z_istore_n C [(2, .int (z_I 0)), (1, .int (z_I 0)), (0, .ref hR)] dX3_trueOnes_3 (by decide) rfl ?_
  have loop4 : ∀ (zn : Nat) (j : Int) (a : Int), 0 ≤ j ∧ j ≤ rn → a = z_it (fun j a => if nu j = co j then a + 1 else a) 0 j.toNat → (rn - j) < (zn : Int) → z_V p l e { frames := 1, cells := 0, slots := 0, locals := 21 } s m args below meth c D A 3 0 0 Q [(hR, .inr (3, [.int (z_I rn), .ref aR1, .ref aR2, .ref aR3, .ref aR4])), (aR1, z_ai cI 99 nu), (aR2, z_ai cI 99 ti), (aR3, z_ai cI 99 co), (aR4, z_ai cZ 99 la)] 4 [(2, .int (z_I j)), (1, .int (z_I a)), (0, .ref hR)] [] := by
    intro zn
    induction zn with
    | zero => intro j a hj ha hm; exact absurd hm (by omega)
    | succ zn ih =>
      intro j a hj ha hm
      refine z_iload_n C 0 dX3_trueOnes_4 rfl ?_
      refine z_aload_n C 2 dX3_trueOnes_5 rfl ?_
      refine z_get C 0 0 zi_X3_trueOnes_X3 rfl rfl (by decide) zl_X3_trueOnes_25 rfl rfl dX3_trueOnes_6 ?_
      refine z_icmp_ge C 29 dX3_trueOnes_9 (by decide) (by omega) (by omega) (fun hc1 => ?_) (fun hc1 => ?_)
      · skip
        obtain rfl : j = rn := by omega
        refine z_iload_n C 1 dX3_trueOnes_29 rfl ?_
        exact z_iret C hQ rfl ha dX3_trueOnes_30
      · skip
        have hM := hnu j (by omega) (by omega)
        refine z_aload_n C 2 dX3_trueOnes_12 rfl ?_
        refine z_iload_n C 0 dX3_trueOnes_13 rfl ?_
        refine z_callVi C [0, 1, 2, 3, 4] [(hR, .inr (3, [.int (z_I rn), .ref aR1, .ref aR2, .ref aR3, .ref aR4])), (aR1, z_ai cI 99 nu), (aR2, z_ai cI 99 ti), (aR3, z_ai cI 99 co), (aR4, z_ai cZ 99 la)] [.int (z_I j)] [] (c_X3_isTrue l D cI cZ cO hR aR1 aR2 aR3 aR4 rn nu ti co la j (by first | assumption | omega) hM.1 hM.2.1) gX3_trueOnes_X3_isTrue rfl zd_X3_isTrue rfl (by decide) rfl rfl rfl (by decide) rfl rfl rfl (by decide) (by decide) dX3_trueOnes_14 ?_
        refine z_if_eq C 23 dX3_trueOnes_17 (by decide) (by omega) (fun hc2 => ?_) (fun hc2 => ?_)
        · skip
          have hz := z_if0.mp hc2
          refine z_iinc C 0 [(2, .int (z_I (j + 1))), (1, .int (z_I a)), (0, .ref hR)] dX3_trueOnes_23 rfl (by decide) rfl ?_
          refine z_goto C 4 dX3_trueOnes_26 (by decide) ?_
          exact ih (j + 1) a (by first | assumption | omega) (by rw [z_it_next _ _ hj.1, ← ha]; first | rw [if_pos hz] | rw [if_neg hz]) (by omega)
        · skip
          have hz := z_if1.mp hc2
          refine z_iinc C 1 [(1, .int (z_I (a + 1))), (2, .int (z_I j)), (0, .ref hR)] dX3_trueOnes_20 rfl (by decide) rfl ?_
          refine z_iinc C 1 [(2, .int (z_I (j + 1))), (1, .int (z_I (a + 1))), (0, .ref hR)] dX3_trueOnes_23 rfl (by decide) rfl ?_
          refine z_goto C 4 dX3_trueOnes_26 (by decide) ?_
          exact ih (j + 1) (a + 1) (by first | assumption | omega) (by rw [z_it_next _ _ hj.1, ← ha]; first | rw [if_pos hz] | rw [if_neg hz]) (by omega)
  exact loop4 (rn.toNat + 1) 0 0 (by first | assumption | omega) rfl (by omega)
theorem zi_X4_copyFrom_X4 : ∀ w ∈ u_ws RX4 TX4 5, w ∈ wsX4_copyFrom := by decide +kernel
theorem zl_X4_copyFrom_15 : Cond.fieldLink RX4 15 "RippleCounts$Sightings" "often" "[I" ∈ wsX4_copyFrom := by decide +kernel
theorem zl_X4_copyFrom_18 : Cond.fieldLink RX4 18 "RippleCounts$Sightings" "flashes" "[I" ∈ wsX4_copyFrom := by decide +kernel
theorem zl_X4_copyFrom_21 : Cond.fieldLink RX4 21 "RippleCounts$Sightings" "firstTimes" "[I" ∈ wsX4_copyFrom := by decide +kernel
theorem zl_X4_copyFrom_24 : Cond.fieldLink RX4 24 "RippleCounts$Sightings" "size" "I" ∈ wsX4_copyFrom := by decide +kernel
theorem zl_X4_copyFrom_28i : Cond.initialized "java/lang/System" ∈ wsX4_copyFrom := by decide +kernel
theorem zl_X4_copyFrom_28k : Cond.methodLink RX4 28 arraycopyName ∈ wsX4_copyFrom := by decide +kernel
theorem zl_X4_copyFrom_28n : Cond.native arraycopyName ∈ wsX4_copyFrom := by decide +kernel
theorem zl_X4_copyFrom_28s : Cond.static arraycopyName ∈ wsX4_copyFrom := by decide +kernel
theorem zl_X4_copyFrom_9 : Cond.fieldLink RX4 9 "RippleCounts$Sightings" "ranked" "[I" ∈ wsX4_copyFrom := by decide +kernel
theorem zd_X4_copyFrom : yX4_copyFrom.cls ≠ "java/lang/invoke/MethodHandle" ∧ yX4_copyFrom.cls ≠ "java/lang/invoke/VarHandle" ∧ (parseMethodDescriptor yX4_copyFrom.desc).map (fun d => d.parameters.length) = some 1 := by decide +kernel
set_option maxHeartbeats 4000000 in
set_option maxRecDepth 100000 in
theorem c_X4_copyFrom (l : Launch) (D : va_G) (cI cZ cO : ClassId) (hS aS1 aS2 aS3 aS4 : Nat) (sn : Int) (rk fo fl ft : Int → Int) (hSo aS1o aS2o aS3o aS4o : Nat) (sno : Int) (rko foo flo fto : Int → Int) : z_Mv l yX4_copyFrom wsX4_copyFrom 1 40 D (z_T cI cZ cO) [.ref hS, .ref hSo] [(hS, .inr (4, [.int (z_I sn), .ref aS1, .ref aS2, .ref aS3, .ref aS4])), (aS1, z_ai cI 32 rk), (aS2, z_ai cI 32 fo), (aS3, z_ai cI 32 fl), (aS4, z_ai cI 32 ft), (hSo, .inr (4, [.int (z_I sno), .ref aS1o, .ref aS2o, .ref aS3o, .ref aS4o])), (aS1o, z_ai cI 32 rko), (aS2o, z_ai cI 32 foo), (aS3o, z_ai cI 32 flo), (aS4o, z_ai cI 32 fto)] [(hS, .inr (4, [.int (z_I sno), .ref aS1, .ref aS2, .ref aS3, .ref aS4])), (aS1, z_ai cI 32 rko), (aS2, z_ai cI 32 foo), (aS3, z_ai cI 32 flo), (aS4, z_ai cI 32 fto), (hSo, .inr (4, [.int (z_I sno), .ref aS1o, .ref aS2o, .ref aS3o, .ref aS4o])), (aS1o, z_ai cI 32 rko), (aS2o, z_ai cI 32 foo), (aS3o, z_ai cI 32 flo), (aS4o, z_ai cI 32 fto)] := by
  refine z_Mv_of (cc := cX4_copyFrom) (nL := 2) (ret := none) (by decide +kernel) rfl (Nat.le_of_ble_eq_true rfl) ?_
  intro p e s m args below meth c A Q C hQ
  change z_V p l e { frames := 1, cells := 0, slots := 0, locals := 40 } s m args below meth c D A 2 0 0 Q [(hS, .inr (4, [.int (z_I sn), .ref aS1, .ref aS2, .ref aS3, .ref aS4])), (aS1, z_ai cI 32 rk), (aS2, z_ai cI 32 fo), (aS3, z_ai cI 32 fl), (aS4, z_ai cI 32 ft), (hSo, .inr (4, [.int (z_I sno), .ref aS1o, .ref aS2o, .ref aS3o, .ref aS4o])), (aS1o, z_ai cI 32 rko), (aS2o, z_ai cI 32 foo), (aS3o, z_ai cI 32 flo), (aS4o, z_ai cI 32 fto)] 0 [(0, .ref hS), (1, .ref hSo)] []
  refine z_aload_n C 0 dX4_copyFrom_0 rfl ?_
  refine z_aload_n C 1 dX4_copyFrom_1 rfl ?_
  refine z_get C 5 0 zi_X4_copyFrom_X4 rfl rfl (by decide) zl_X4_copyFrom_24 rfl rfl dX4_copyFrom_2 ?_
  refine z_put C 0 0 [(hS, .inr (4, [.int (z_I sno), .ref aS1, .ref aS2, .ref aS3, .ref aS4])), (aS1, z_ai cI 32 rk), (aS2, z_ai cI 32 fo), (aS3, z_ai cI 32 fl), (aS4, z_ai cI 32 ft), (hSo, .inr (4, [.int (z_I sno), .ref aS1o, .ref aS2o, .ref aS3o, .ref aS4o])), (aS1o, z_ai cI 32 rko), (aS2o, z_ai cI 32 foo), (aS3o, z_ai cI 32 flo), (aS4o, z_ai cI 32 fto)] zi_X4_copyFrom_X4 tyX4_ok nmX4 rfl rfl (by decide) zl_X4_copyFrom_24 rfl rfl rfl rfl (Nat.le_of_ble_eq_true rfl) rfl dX4_copyFrom_5 ?_
  refine z_aload_n C 1 dX4_copyFrom_8 rfl ?_
  refine z_get C 5 1 zi_X4_copyFrom_X4 rfl rfl (by decide) zl_X4_copyFrom_9 rfl rfl dX4_copyFrom_9 ?_
  refine z_iconst C 0 dX4_copyFrom_12 ?_
  refine z_aload_n C 0 dX4_copyFrom_13 rfl ?_
  refine z_get C 0 1 zi_X4_copyFrom_X4 rfl rfl (by decide) zl_X4_copyFrom_9 rfl rfl dX4_copyFrom_14 ?_
  refine z_iconst C 0 dX4_copyFrom_17 ?_
  refine z_bipush C 32 dX4_copyFrom_18 (by decide) ?_
  refine z_copy C 6 1 0 [(hS, .inr (4, [.int (z_I sno), .ref aS1, .ref aS2, .ref aS3, .ref aS4])), (aS1, z_ai cI 32 (z_cp rko rk 0 0 32)), (aS2, z_ai cI 32 fo), (aS3, z_ai cI 32 fl), (aS4, z_ai cI 32 ft), (hSo, .inr (4, [.int (z_I sno), .ref aS1o, .ref aS2o, .ref aS3o, .ref aS4o])), (aS1o, z_ai cI 32 rko), (aS2o, z_ai cI 32 foo), (aS3o, z_ai cI 32 flo), (aS4o, z_ai cI 32 fto)] .int zl_X4_copyFrom_28k zl_X4_copyFrom_28n zl_X4_copyFrom_28s zl_X4_copyFrom_28i rfl rfl rfl rfl (by omega) (fun _ _ _ => rfl) (by decide) rfl dX4_copyFrom_20 ?_
  refine z_arr (c := c) 1 rko [(hS, .inr (4, [.int (z_I sno), .ref aS1, .ref aS2, .ref aS3, .ref aS4])), (aS1, z_ai cI 32 rko), (aS2, z_ai cI 32 fo), (aS3, z_ai cI 32 fl), (aS4, z_ai cI 32 ft), (hSo, .inr (4, [.int (z_I sno), .ref aS1o, .ref aS2o, .ref aS3o, .ref aS4o])), (aS1o, z_ai cI 32 rko), (aS2o, z_ai cI 32 foo), (aS3o, z_ai cI 32 flo), (aS4o, z_ai cI 32 fto)] rfl (fun i h1 h2 => z_cp_full h1 (by omega)) rfl ?_
  refine z_aload_n C 1 dX4_copyFrom_23 rfl ?_
  refine z_get C 5 2 zi_X4_copyFrom_X4 rfl rfl (by decide) zl_X4_copyFrom_15 rfl rfl dX4_copyFrom_24 ?_
  refine z_iconst C 0 dX4_copyFrom_27 ?_
  refine z_aload_n C 0 dX4_copyFrom_28 rfl ?_
  refine z_get C 0 2 zi_X4_copyFrom_X4 rfl rfl (by decide) zl_X4_copyFrom_15 rfl rfl dX4_copyFrom_29 ?_
  refine z_iconst C 0 dX4_copyFrom_32 ?_
  refine z_bipush C 32 dX4_copyFrom_33 (by decide) ?_
  refine z_copy C 7 2 0 [(hS, .inr (4, [.int (z_I sno), .ref aS1, .ref aS2, .ref aS3, .ref aS4])), (aS1, z_ai cI 32 rko), (aS2, z_ai cI 32 (z_cp foo fo 0 0 32)), (aS3, z_ai cI 32 fl), (aS4, z_ai cI 32 ft), (hSo, .inr (4, [.int (z_I sno), .ref aS1o, .ref aS2o, .ref aS3o, .ref aS4o])), (aS1o, z_ai cI 32 rko), (aS2o, z_ai cI 32 foo), (aS3o, z_ai cI 32 flo), (aS4o, z_ai cI 32 fto)] .int zl_X4_copyFrom_28k zl_X4_copyFrom_28n zl_X4_copyFrom_28s zl_X4_copyFrom_28i rfl rfl rfl rfl (by omega) (fun _ _ _ => rfl) (by decide) rfl dX4_copyFrom_35 ?_
  refine z_arr (c := c) 2 foo [(hS, .inr (4, [.int (z_I sno), .ref aS1, .ref aS2, .ref aS3, .ref aS4])), (aS1, z_ai cI 32 rko), (aS2, z_ai cI 32 foo), (aS3, z_ai cI 32 fl), (aS4, z_ai cI 32 ft), (hSo, .inr (4, [.int (z_I sno), .ref aS1o, .ref aS2o, .ref aS3o, .ref aS4o])), (aS1o, z_ai cI 32 rko), (aS2o, z_ai cI 32 foo), (aS3o, z_ai cI 32 flo), (aS4o, z_ai cI 32 fto)] rfl (fun i h1 h2 => z_cp_full h1 (by omega)) rfl ?_
  refine z_aload_n C 1 dX4_copyFrom_38 rfl ?_
  refine z_get C 5 3 zi_X4_copyFrom_X4 rfl rfl (by decide) zl_X4_copyFrom_18 rfl rfl dX4_copyFrom_39 ?_
  refine z_iconst C 0 dX4_copyFrom_42 ?_
  refine z_aload_n C 0 dX4_copyFrom_43 rfl ?_
  refine z_get C 0 3 zi_X4_copyFrom_X4 rfl rfl (by decide) zl_X4_copyFrom_18 rfl rfl dX4_copyFrom_44 ?_
  refine z_iconst C 0 dX4_copyFrom_47 ?_
  refine z_bipush C 32 dX4_copyFrom_48 (by decide) ?_
  refine z_copy C 8 3 0 [(hS, .inr (4, [.int (z_I sno), .ref aS1, .ref aS2, .ref aS3, .ref aS4])), (aS1, z_ai cI 32 rko), (aS2, z_ai cI 32 foo), (aS3, z_ai cI 32 (z_cp flo fl 0 0 32)), (aS4, z_ai cI 32 ft), (hSo, .inr (4, [.int (z_I sno), .ref aS1o, .ref aS2o, .ref aS3o, .ref aS4o])), (aS1o, z_ai cI 32 rko), (aS2o, z_ai cI 32 foo), (aS3o, z_ai cI 32 flo), (aS4o, z_ai cI 32 fto)] .int zl_X4_copyFrom_28k zl_X4_copyFrom_28n zl_X4_copyFrom_28s zl_X4_copyFrom_28i rfl rfl rfl rfl (by omega) (fun _ _ _ => rfl) (by decide) rfl dX4_copyFrom_50 ?_
  refine z_arr (c := c) 3 flo [(hS, .inr (4, [.int (z_I sno), .ref aS1, .ref aS2, .ref aS3, .ref aS4])), (aS1, z_ai cI 32 rko), (aS2, z_ai cI 32 foo), (aS3, z_ai cI 32 flo), (aS4, z_ai cI 32 ft), (hSo, .inr (4, [.int (z_I sno), .ref aS1o, .ref aS2o, .ref aS3o, .ref aS4o])), (aS1o, z_ai cI 32 rko), (aS2o, z_ai cI 32 foo), (aS3o, z_ai cI 32 flo), (aS4o, z_ai cI 32 fto)] rfl (fun i h1 h2 => z_cp_full h1 (by omega)) rfl ?_
  refine z_aload_n C 1 dX4_copyFrom_53 rfl ?_
  refine z_get C 5 4 zi_X4_copyFrom_X4 rfl rfl (by decide) zl_X4_copyFrom_21 rfl rfl dX4_copyFrom_54 ?_
  refine z_iconst C 0 dX4_copyFrom_57 ?_
  refine z_aload_n C 0 dX4_copyFrom_58 rfl ?_
  refine z_get C 0 4 zi_X4_copyFrom_X4 rfl rfl (by decide) zl_X4_copyFrom_21 rfl rfl dX4_copyFrom_59 ?_
  refine z_iconst C 0 dX4_copyFrom_62 ?_
  refine z_bipush C 32 dX4_copyFrom_63 (by decide) ?_
  refine z_copy C 9 4 0 [(hS, .inr (4, [.int (z_I sno), .ref aS1, .ref aS2, .ref aS3, .ref aS4])), (aS1, z_ai cI 32 rko), (aS2, z_ai cI 32 foo), (aS3, z_ai cI 32 flo), (aS4, z_ai cI 32 (z_cp fto ft 0 0 32)), (hSo, .inr (4, [.int (z_I sno), .ref aS1o, .ref aS2o, .ref aS3o, .ref aS4o])), (aS1o, z_ai cI 32 rko), (aS2o, z_ai cI 32 foo), (aS3o, z_ai cI 32 flo), (aS4o, z_ai cI 32 fto)] .int zl_X4_copyFrom_28k zl_X4_copyFrom_28n zl_X4_copyFrom_28s zl_X4_copyFrom_28i rfl rfl rfl rfl (by omega) (fun _ _ _ => rfl) (by decide) rfl dX4_copyFrom_65 ?_
  refine z_arr (c := c) 4 fto [(hS, .inr (4, [.int (z_I sno), .ref aS1, .ref aS2, .ref aS3, .ref aS4])), (aS1, z_ai cI 32 rko), (aS2, z_ai cI 32 foo), (aS3, z_ai cI 32 flo), (aS4, z_ai cI 32 fto), (hSo, .inr (4, [.int (z_I sno), .ref aS1o, .ref aS2o, .ref aS3o, .ref aS4o])), (aS1o, z_ai cI 32 rko), (aS2o, z_ai cI 32 foo), (aS3o, z_ai cI 32 flo), (aS4o, z_ai cI 32 fto)] rfl (fun i h1 h2 => z_cp_full h1 (by omega)) rfl ?_
  exact z_vret C hQ rfl dX4_copyFrom_68
theorem zi_X4_clear_X4 : ∀ w ∈ u_ws RX4 TX4 5, w ∈ wsX4_clear := by decide +kernel
theorem zl_X4_clear_15 : Cond.fieldLink RX4 15 "RippleCounts$Sightings" "often" "[I" ∈ wsX4_clear := by decide +kernel
theorem zl_X4_clear_18 : Cond.fieldLink RX4 18 "RippleCounts$Sightings" "flashes" "[I" ∈ wsX4_clear := by decide +kernel
theorem zl_X4_clear_24 : Cond.fieldLink RX4 24 "RippleCounts$Sightings" "size" "I" ∈ wsX4_clear := by decide +kernel
theorem zd_X4_clear : yX4_clear.cls ≠ "java/lang/invoke/MethodHandle" ∧ yX4_clear.cls ≠ "java/lang/invoke/VarHandle" ∧ (parseMethodDescriptor yX4_clear.desc).map (fun d => d.parameters.length) = some 0 := by decide +kernel
set_option maxHeartbeats 4000000 in
set_option maxRecDepth 100000 in
theorem c_X4_clear (l : Launch) (D : va_G) (cI cZ cO : ClassId) (hS aS1 aS2 aS3 aS4 : Nat) (sn : Int) (rk fo fl ft : Int → Int) : z_Mv l yX4_clear wsX4_clear 1 23 D (z_T cI cZ cO) [.ref hS] [(hS, .inr (4, [.int (z_I sn), .ref aS1, .ref aS2, .ref aS3, .ref aS4])), (aS1, z_ai cI 32 rk), (aS2, z_ai cI 32 fo), (aS3, z_ai cI 32 fl), (aS4, z_ai cI 32 ft)] [(hS, .inr (4, [.int (z_I 0), .ref aS1, .ref aS2, .ref aS3, .ref aS4])), (aS1, z_ai cI 32 rk), (aS2, z_ai cI 32 (fun _ => 0)), (aS3, z_ai cI 32 (fun _ => 0)), (aS4, z_ai cI 32 ft)] := by
  refine z_Mv_of (cc := cX4_clear) (nL := 1) (ret := none) (by decide +kernel) rfl (Nat.le_of_ble_eq_true rfl) ?_
  intro p e s m args below meth c A Q C hQ
  change z_V p l e { frames := 1, cells := 0, slots := 0, locals := 23 } s m args below meth c D A 1 0 0 Q [(hS, .inr (4, [.int (z_I sn), .ref aS1, .ref aS2, .ref aS3, .ref aS4])), (aS1, z_ai cI 32 rk), (aS2, z_ai cI 32 fo), (aS3, z_ai cI 32 fl), (aS4, z_ai cI 32 ft)] 0 [(0, .ref hS)] []
  refine z_aload_n C 0 dX4_clear_0 rfl ?_
  refine z_iconst C 0 dX4_clear_1 ?_
  refine z_put C 0 0 [(hS, .inr (4, [.int (z_I 0), .ref aS1, .ref aS2, .ref aS3, .ref aS4])), (aS1, z_ai cI 32 rk), (aS2, z_ai cI 32 fo), (aS3, z_ai cI 32 fl), (aS4, z_ai cI 32 ft)] zi_X4_clear_X4 tyX4_ok nmX4 rfl rfl (by decide) zl_X4_clear_24 rfl rfl rfl rfl (Nat.le_of_ble_eq_true rfl) rfl dX4_clear_2 ?_
  refine z_aload_n C 0 dX4_clear_5 rfl ?_
  refine z_get C 0 2 zi_X4_clear_X4 rfl rfl (by decide) zl_X4_clear_15 rfl rfl dX4_clear_6 ?_
  refine z_iconst C 0 dX4_clear_9 ?_
  refine z_callSv C [2] [(hS, .inr (4, [.int (z_I 0), .ref aS1, .ref aS2, .ref aS3, .ref aS4])), (aS1, z_ai cI 32 rk), (aS2, z_ai cI 32 (fun _ => 0)), (aS3, z_ai cI 32 fl), (aS4, z_ai cI 32 ft)] [.ref aS2, .int (z_I 0)] [] (c_J7_fill_53178_32 l D cI cZ cO aS2 fo 0 ) gX4_clear_J7_fill_53178 rfl zd_J7_fill_53178 rfl (by decide) rfl (by decide) rfl rfl rfl (by decide) (by decide) dX4_clear_10 ?_
  refine z_aload_n C 0 dX4_clear_13 rfl ?_
  refine z_get C 0 3 zi_X4_clear_X4 rfl rfl (by decide) zl_X4_clear_18 rfl rfl dX4_clear_14 ?_
  refine z_iconst C 0 dX4_clear_17 ?_
  refine z_callSv C [3] [(hS, .inr (4, [.int (z_I 0), .ref aS1, .ref aS2, .ref aS3, .ref aS4])), (aS1, z_ai cI 32 rk), (aS2, z_ai cI 32 (fun _ => 0)), (aS3, z_ai cI 32 (fun _ => 0)), (aS4, z_ai cI 32 ft)] [.ref aS3, .int (z_I 0)] [] (c_J7_fill_53178_32 l D cI cZ cO aS3 fl 0 ) gX4_clear_J7_fill_53178 rfl zd_J7_fill_53178 rfl (by decide) rfl (by decide) rfl rfl rfl (by decide) (by decide) dX4_clear_18 ?_
  exact z_vret C hQ rfl dX4_clear_21
theorem zi_X4_add_X4 : ∀ w ∈ u_ws RX4 TX4 5, w ∈ wsX4_add := by decide +kernel
theorem zl_X4_add_15 : Cond.fieldLink RX4 15 "RippleCounts$Sightings" "often" "[I" ∈ wsX4_add := by decide +kernel
theorem zl_X4_add_18 : Cond.fieldLink RX4 18 "RippleCounts$Sightings" "flashes" "[I" ∈ wsX4_add := by decide +kernel
theorem zl_X4_add_21 : Cond.fieldLink RX4 21 "RippleCounts$Sightings" "firstTimes" "[I" ∈ wsX4_add := by decide +kernel
theorem zl_X4_add_24 : Cond.fieldLink RX4 24 "RippleCounts$Sightings" "size" "I" ∈ wsX4_add := by decide +kernel
theorem zl_X4_add_9 : Cond.fieldLink RX4 9 "RippleCounts$Sightings" "ranked" "[I" ∈ wsX4_add := by decide +kernel
theorem zd_X4_add : yX4_add.cls ≠ "java/lang/invoke/MethodHandle" ∧ yX4_add.cls ≠ "java/lang/invoke/VarHandle" ∧ (parseMethodDescriptor yX4_add.desc).map (fun d => d.parameters.length) = some 3 := by decide +kernel
set_option maxHeartbeats 4000000 in
set_option maxRecDepth 100000 in
theorem c_X4_add (l : Launch) (D : va_G) (cI cZ cO : ClassId) (hS aS1 aS2 aS3 aS4 : Nat) (sn : Int) (rk fo fl ft : Int → Int) (nb tm fb : Int) (hb : 0 ≤ nb ∧ nb < 32) (hsn : 0 ≤ sn ∧ sn ≤ 32) (hfo : 0 ≤ fo nb ∧ fo nb < 1000000) (hnew : fo nb = 0 → sn < 32) (hfb : fb = 0 ∨ fb = 1) : z_Mv l yX4_add wsX4_add 0 0 D (z_T cI cZ cO) [.ref hS, .int (z_I nb), .int (z_I tm), .int (z_I fb)] [(hS, .inr (4, [.int (z_I sn), .ref aS1, .ref aS2, .ref aS3, .ref aS4])), (aS1, z_ai cI 32 rk), (aS2, z_ai cI 32 fo), (aS3, z_ai cI 32 fl), (aS4, z_ai cI 32 ft)] [(hS, .inr (4, [.int (z_I (if fo nb = 0 then sn + 1 else sn)), .ref aS1, .ref aS2, .ref aS3, .ref aS4])), (aS1, z_ai cI 32 (if fo nb = 0 then z_u rk sn nb else rk)), (aS2, z_ai cI 32 (z_u fo nb (fo nb + 1))), (aS3, z_ai cI 32 (if fb = 0 then fl else z_u fl nb (fl nb + 1))), (aS4, z_ai cI 32 (if fo nb = 0 then z_u ft nb tm else ft))] := by
  refine z_Mv_of (cc := cX4_add) (nL := 4) (ret := none) (by decide +kernel) rfl (Nat.le_of_ble_eq_true rfl) ?_
  intro p e s m args below meth c A Q C hQ
  change z_V p l e { frames := 0, cells := 0, slots := 0, locals := 0 } s m args below meth c D A 4 0 0 Q [(hS, .inr (4, [.int (z_I sn), .ref aS1, .ref aS2, .ref aS3, .ref aS4])), (aS1, z_ai cI 32 rk), (aS2, z_ai cI 32 fo), (aS3, z_ai cI 32 fl), (aS4, z_ai cI 32 ft)] 0 [(0, .ref hS), (1, .int (z_I nb)), (2, .int (z_I tm)), (3, .int (z_I fb))] []
  refine z_iload_n C 1 dX4_add_0 rfl ?_
  refine z_if_lt C 10 dX4_add_1 (by decide) (by omega) (fun hc1 => ?_) (fun hc1 => ?_)
  · exfalso; omega
  · skip
    refine z_iload_n C 1 dX4_add_4 rfl ?_
    refine z_bipush C 32 dX4_add_5 (by decide) ?_
    refine z_icmp_lt C 11 dX4_add_7 (by decide) (by omega) (by omega) (fun hc2 => ?_) (fun hc2 => ?_)
    · skip
      refine z_aload_n C 0 dX4_add_11 rfl ?_
      refine z_get C 0 2 zi_X4_add_X4 rfl rfl (by decide) zl_X4_add_15 rfl rfl dX4_add_12 ?_
      refine z_iload_n C 1 dX4_add_15 rfl ?_
      refine z_iald C 2 0 rfl rfl (by decide) (by omega) dX4_add_16 ?_
      refine z_if_ne C 56 dX4_add_17 (by decide) (by omega) (fun hc3 => ?_) (fun hc3 => ?_)
      · skip
        have hz : ¬ fo nb = 0 := hc3
        refine z_aload_n C 0 dX4_add_56 rfl ?_
        refine z_get C 0 2 zi_X4_add_X4 rfl rfl (by decide) zl_X4_add_15 rfl rfl dX4_add_57 ?_
        refine z_iload_n C 1 dX4_add_60 rfl ?_
        refine z_dup2 C dX4_add_61 rfl rfl ?_
        refine z_iald C 2 0 rfl rfl (by decide) (by omega) dX4_add_62 ?_
        refine z_iconst C 1 dX4_add_63 ?_
        refine z_iadd C dX4_add_64 ?_
        refine z_iast C 2 0 [(hS, .inr (4, [.int (z_I sn), .ref aS1, .ref aS2, .ref aS3, .ref aS4])), (aS1, z_ai cI 32 rk), (aS2, z_ai cI 32 (z_u fo nb ((fo nb) + 1))), (aS3, z_ai cI 32 fl), (aS4, z_ai cI 32 ft)] rfl rfl (by decide) (by omega) rfl dX4_add_65 ?_
        refine z_iload_n C 3 dX4_add_66 rfl ?_
        refine z_if_eq C 80 dX4_add_67 (by decide) (by omega) (fun hc4 => ?_) (fun hc4 => ?_)
        · skip
          have hy : fb = 0 := hc4
          exact z_vret C hQ (by first | rw [if_pos hz, if_pos hz, if_pos hz, if_pos hy] | rw [if_pos hz, if_pos hz, if_pos hz, if_neg hy] | rw [if_neg hz, if_neg hz, if_neg hz, if_pos hy] | rw [if_neg hz, if_neg hz, if_neg hz, if_neg hy]) dX4_add_80
        · skip
          have hy : ¬ fb = 0 := hc4
          refine z_aload_n C 0 dX4_add_70 rfl ?_
          refine z_get C 0 3 zi_X4_add_X4 rfl rfl (by decide) zl_X4_add_18 rfl rfl dX4_add_71 ?_
          refine z_iload_n C 1 dX4_add_74 rfl ?_
          refine z_dup2 C dX4_add_75 rfl rfl ?_
          refine z_iald C 3 0 rfl rfl (by decide) (by omega) dX4_add_76 ?_
          refine z_iconst C 1 dX4_add_77 ?_
          refine z_iadd C dX4_add_78 ?_
          refine z_iast C 3 0 [(hS, .inr (4, [.int (z_I sn), .ref aS1, .ref aS2, .ref aS3, .ref aS4])), (aS1, z_ai cI 32 rk), (aS2, z_ai cI 32 (z_u fo nb ((fo nb) + 1))), (aS3, z_ai cI 32 (z_u fl nb ((fl nb) + 1))), (aS4, z_ai cI 32 ft)] rfl rfl (by decide) (by omega) rfl dX4_add_79 ?_
          exact z_vret C hQ (by first | rw [if_pos hz, if_pos hz, if_pos hz, if_pos hy] | rw [if_pos hz, if_pos hz, if_pos hz, if_neg hy] | rw [if_neg hz, if_neg hz, if_neg hz, if_pos hy] | rw [if_neg hz, if_neg hz, if_neg hz, if_neg hy]) dX4_add_80
      · skip
        have hz : fo nb = 0 := by omega
        refine z_aload_n C 0 dX4_add_20 rfl ?_
        refine z_get C 0 0 zi_X4_add_X4 rfl rfl (by decide) zl_X4_add_24 rfl rfl dX4_add_21 ?_
        refine z_bipush C 32 dX4_add_24 (by decide) ?_
        refine z_icmp_ge C 56 dX4_add_26 (by decide) (by omega) (by omega) (fun hc5 => ?_) (fun hc5 => ?_)
        · exfalso; have := hnew hz; omega
        · skip
          refine z_aload_n C 0 dX4_add_29 rfl ?_
          refine z_get C 0 1 zi_X4_add_X4 rfl rfl (by decide) zl_X4_add_9 rfl rfl dX4_add_30 ?_
          refine z_aload_n C 0 dX4_add_33 rfl ?_
          refine z_get C 0 0 zi_X4_add_X4 rfl rfl (by decide) zl_X4_add_24 rfl rfl dX4_add_34 ?_
          refine z_iload_n C 1 dX4_add_37 rfl ?_
          refine z_iast C 1 0 [(hS, .inr (4, [.int (z_I sn), .ref aS1, .ref aS2, .ref aS3, .ref aS4])), (aS1, z_ai cI 32 (z_u rk sn nb)), (aS2, z_ai cI 32 fo), (aS3, z_ai cI 32 fl), (aS4, z_ai cI 32 ft)] rfl rfl (by decide) (by omega) rfl dX4_add_38 ?_
          refine z_aload_n C 0 dX4_add_39 rfl ?_
          refine z_get C 0 4 zi_X4_add_X4 rfl rfl (by decide) zl_X4_add_21 rfl rfl dX4_add_40 ?_
          refine z_iload_n C 1 dX4_add_43 rfl ?_
          refine z_iload_n C 2 dX4_add_44 rfl ?_
          refine z_iast C 4 0 [(hS, .inr (4, [.int (z_I sn), .ref aS1, .ref aS2, .ref aS3, .ref aS4])), (aS1, z_ai cI 32 (z_u rk sn nb)), (aS2, z_ai cI 32 fo), (aS3, z_ai cI 32 fl), (aS4, z_ai cI 32 (z_u ft nb tm))] rfl rfl (by decide) (by omega) rfl dX4_add_45 ?_
          refine z_aload_n C 0 dX4_add_46 rfl ?_
          refine z_dup C dX4_add_47 rfl ?_
          refine z_get C 0 0 zi_X4_add_X4 rfl rfl (by decide) zl_X4_add_24 rfl rfl dX4_add_48 ?_
          refine z_iconst C 1 dX4_add_51 ?_
          refine z_iadd C dX4_add_52 ?_
          refine z_put C 0 0 [(hS, .inr (4, [.int (z_I (sn + 1)), .ref aS1, .ref aS2, .ref aS3, .ref aS4])), (aS1, z_ai cI 32 (z_u rk sn nb)), (aS2, z_ai cI 32 fo), (aS3, z_ai cI 32 fl), (aS4, z_ai cI 32 (z_u ft nb tm))] zi_X4_add_X4 tyX4_ok nmX4 rfl rfl (by decide) zl_X4_add_24 rfl rfl rfl rfl (Nat.le_of_ble_eq_true rfl) rfl dX4_add_53 ?_
          refine z_aload_n C 0 dX4_add_56 rfl ?_
          refine z_get C 0 2 zi_X4_add_X4 rfl rfl (by decide) zl_X4_add_15 rfl rfl dX4_add_57 ?_
          refine z_iload_n C 1 dX4_add_60 rfl ?_
          refine z_dup2 C dX4_add_61 rfl rfl ?_
          refine z_iald C 2 0 rfl rfl (by decide) (by omega) dX4_add_62 ?_
          refine z_iconst C 1 dX4_add_63 ?_
          refine z_iadd C dX4_add_64 ?_
          refine z_iast C 2 0 [(hS, .inr (4, [.int (z_I (sn + 1)), .ref aS1, .ref aS2, .ref aS3, .ref aS4])), (aS1, z_ai cI 32 (z_u rk sn nb)), (aS2, z_ai cI 32 (z_u fo nb ((fo nb) + 1))), (aS3, z_ai cI 32 fl), (aS4, z_ai cI 32 (z_u ft nb tm))] rfl rfl (by decide) (by omega) rfl dX4_add_65 ?_
          refine z_iload_n C 3 dX4_add_66 rfl ?_
          refine z_if_eq C 80 dX4_add_67 (by decide) (by omega) (fun hc6 => ?_) (fun hc6 => ?_)
          · skip
            have hy : fb = 0 := hc6
            exact z_vret C hQ (by first | rw [if_pos hz, if_pos hz, if_pos hz, if_pos hy] | rw [if_pos hz, if_pos hz, if_pos hz, if_neg hy] | rw [if_neg hz, if_neg hz, if_neg hz, if_pos hy] | rw [if_neg hz, if_neg hz, if_neg hz, if_neg hy]) dX4_add_80
          · skip
            have hy : ¬ fb = 0 := hc6
            refine z_aload_n C 0 dX4_add_70 rfl ?_
            refine z_get C 0 3 zi_X4_add_X4 rfl rfl (by decide) zl_X4_add_18 rfl rfl dX4_add_71 ?_
            refine z_iload_n C 1 dX4_add_74 rfl ?_
            refine z_dup2 C dX4_add_75 rfl rfl ?_
            refine z_iald C 3 0 rfl rfl (by decide) (by omega) dX4_add_76 ?_
            refine z_iconst C 1 dX4_add_77 ?_
            refine z_iadd C dX4_add_78 ?_
            refine z_iast C 3 0 [(hS, .inr (4, [.int (z_I (sn + 1)), .ref aS1, .ref aS2, .ref aS3, .ref aS4])), (aS1, z_ai cI 32 (z_u rk sn nb)), (aS2, z_ai cI 32 (z_u fo nb ((fo nb) + 1))), (aS3, z_ai cI 32 (z_u fl nb ((fl nb) + 1))), (aS4, z_ai cI 32 (z_u ft nb tm))] rfl rfl (by decide) (by omega) rfl dX4_add_79 ?_
            exact z_vret C hQ (by first | rw [if_pos hz, if_pos hz, if_pos hz, if_pos hy] | rw [if_pos hz, if_pos hz, if_pos hz, if_neg hy] | rw [if_neg hz, if_neg hz, if_neg hz, if_pos hy] | rw [if_neg hz, if_neg hz, if_neg hz, if_neg hy]) dX4_add_80
    · exfalso; omega
theorem zi_X4_tell_X4 : ∀ w ∈ u_ws RX4 TX4 5, w ∈ wsX4_tell := by decide +kernel
theorem zl_X4_tell_15 : Cond.fieldLink RX4 15 "RippleCounts$Sightings" "often" "[I" ∈ wsX4_tell := by decide +kernel
theorem zl_X4_tell_18 : Cond.fieldLink RX4 18 "RippleCounts$Sightings" "flashes" "[I" ∈ wsX4_tell := by decide +kernel
theorem zl_X4_tell_21 : Cond.fieldLink RX4 21 "RippleCounts$Sightings" "firstTimes" "[I" ∈ wsX4_tell := by decide +kernel
theorem zl_X4_tell_24 : Cond.fieldLink RX4 24 "RippleCounts$Sightings" "size" "I" ∈ wsX4_tell := by decide +kernel
theorem zl_X4_tell_9 : Cond.fieldLink RX4 9 "RippleCounts$Sightings" "ranked" "[I" ∈ wsX4_tell := by decide +kernel
theorem zd_X4_tell : yX4_tell.cls ≠ "java/lang/invoke/MethodHandle" ∧ yX4_tell.cls ≠ "java/lang/invoke/VarHandle" ∧ (parseMethodDescriptor yX4_tell.desc).map (fun d => d.parameters.length) = some 2 := by decide +kernel
set_option maxHeartbeats 4000000 in
set_option maxRecDepth 100000 in
theorem c_X4_tell (l : Launch) (D : va_G) (cI cZ cO : ClassId) (hS aS1 aS2 aS3 aS4 : Nat) (sn : Int) (rk fo fl ft : Int → Int) (k w : Int) (hk : -2147483648 ≤ k ∧ k < 2147483648) (hw : -2147483648 ≤ w ∧ w < 2147483648) (hn : 0 ≤ sn ∧ sn ≤ 32) (hrk : ∀ i : Int, 0 ≤ i → i < sn → 0 ≤ rk i ∧ rk i < 32) : z_Mi l yX4_tell wsX4_tell 0 0 D (z_T cI cZ cO) [.ref hS, .int (z_I k), .int (z_I w)] [(hS, .inr (4, [.int (z_I sn), .ref aS1, .ref aS2, .ref aS3, .ref aS4])), (aS1, z_ai cI 32 rk), (aS2, z_ai cI 32 fo), (aS3, z_ai cI 32 fl), (aS4, z_ai cI 32 ft)] [(hS, .inr (4, [.int (z_I sn), .ref aS1, .ref aS2, .ref aS3, .ref aS4])), (aS1, z_ai cI 32 rk), (aS2, z_ai cI 32 fo), (aS3, z_ai cI 32 fl), (aS4, z_ai cI 32 ft)] (if 0 ≤ k ∧ k < sn then (if w = 0 then rk k else if w = 1 then fo (rk k) else if w = 2 then fl (rk k) else if w = 3 then ft (rk k) else -2) else -1) := by
  refine z_Mi_of (cc := cX4_tell) (nL := 4) (ret := (some .int)) (by decide +kernel) rfl (Nat.le_of_ble_eq_true rfl) ?_
  intro p e s m args below meth c A Q C hQ
  change z_V p l e { frames := 0, cells := 0, slots := 0, locals := 0 } s m args below meth c D A 4 0 0 Q [(hS, .inr (4, [.int (z_I sn), .ref aS1, .ref aS2, .ref aS3, .ref aS4])), (aS1, z_ai cI 32 rk), (aS2, z_ai cI 32 fo), (aS3, z_ai cI 32 fl), (aS4, z_ai cI 32 ft)] 0 [(0, .ref hS), (1, .int (z_I k)), (2, .int (z_I w))] []
  refine z_iload_n C 1 dX4_tell_0 rfl ?_
  refine z_if_lt C 12 dX4_tell_1 (by decide) (by omega) (fun hc1 => ?_) (fun hc1 => ?_)
  · skip
    refine z_iconst C (-1) dX4_tell_12 ?_
    exact z_iret C hQ rfl (by first | rfl | omega | ((repeat' split) <;> omega)) dX4_tell_13
  · skip
    refine z_iload_n C 1 dX4_tell_4 rfl ?_
    refine z_aload_n C 0 dX4_tell_5 rfl ?_
    refine z_get C 0 0 zi_X4_tell_X4 rfl rfl (by decide) zl_X4_tell_24 rfl rfl dX4_tell_6 ?_
    refine z_icmp_lt C 14 dX4_tell_9 (by decide) (by omega) (by omega) (fun hc2 => ?_) (fun hc2 => ?_)
    · skip
      have hM := hrk k (by omega) (by omega)
      refine z_aload_n C 0 dX4_tell_14 rfl ?_
      refine z_get C 0 1 zi_X4_tell_X4 rfl rfl (by decide) zl_X4_tell_9 rfl rfl dX4_tell_15 ?_
      refine z_iload_n C 1 dX4_tell_18 rfl ?_
      refine z_iald C 1 0 rfl rfl (by decide) (by omega) dX4_tell_19 ?_
      refine z_istore_n C [(3, .int (z_I (rk k))), (0, .ref hS), (1, .int (z_I k)), (2, .int (z_I w))] dX4_tell_20 (by decide) rfl ?_
      refine z_iload_n C 3 dX4_tell_21 rfl ?_
      by_cases hc3 : w = 0
      · skip
        refine z_tabI C 52 0 dX4_tell_22 hc3 (by decide) rfl (by decide) ?_
        refine z_iload_n C 0 dX4_tell_52 rfl ?_
        exact z_iret C hQ rfl (by first | rfl | omega | ((repeat' split) <;> omega)) dX4_tell_53
      by_cases hc4 : w = 1
      · skip
        refine z_tabI C 54 1 dX4_tell_22 hc4 (by decide) rfl (by decide) ?_
        refine z_aload_n C 1 dX4_tell_54 rfl ?_
        refine z_get C 0 2 zi_X4_tell_X4 rfl rfl (by decide) zl_X4_tell_15 rfl rfl dX4_tell_55 ?_
        refine z_iload_n C 0 dX4_tell_58 rfl ?_
        refine z_iald C 2 0 rfl rfl (by decide) (by omega) dX4_tell_59 ?_
        exact z_iret C hQ rfl (by first | rfl | omega | ((repeat' split) <;> omega)) dX4_tell_60
      by_cases hc5 : w = 2
      · skip
        refine z_tabI C 61 2 dX4_tell_22 hc5 (by decide) rfl (by decide) ?_
        refine z_aload_n C 1 dX4_tell_61 rfl ?_
        refine z_get C 0 3 zi_X4_tell_X4 rfl rfl (by decide) zl_X4_tell_18 rfl rfl dX4_tell_62 ?_
        refine z_iload_n C 0 dX4_tell_65 rfl ?_
        refine z_iald C 3 0 rfl rfl (by decide) (by omega) dX4_tell_66 ?_
        exact z_iret C hQ rfl (by first | rfl | omega | ((repeat' split) <;> omega)) dX4_tell_67
      by_cases hc6 : w = 3
      · skip
        refine z_tabI C 68 3 dX4_tell_22 hc6 (by decide) rfl (by decide) ?_
        refine z_aload_n C 1 dX4_tell_68 rfl ?_
        refine z_get C 0 4 zi_X4_tell_X4 rfl rfl (by decide) zl_X4_tell_21 rfl rfl dX4_tell_69 ?_
        refine z_iload_n C 0 dX4_tell_72 rfl ?_
        refine z_iald C 4 0 rfl rfl (by decide) (by omega) dX4_tell_73 ?_
        exact z_iret C hQ rfl (by first | rfl | omega | ((repeat' split) <;> omega)) dX4_tell_74
      refine z_tabO C 75 dX4_tell_22 (by omega) (by omega) (by decide) ?_
      refine z_bipush C (-2) dX4_tell_75 (by decide) ?_
      exact z_iret C hQ rfl (by first | rfl | omega | ((repeat' split) <;> omega)) dX4_tell_77
    · skip
      refine z_iconst C (-1) dX4_tell_12 ?_
      exact z_iret C hQ rfl (by first | rfl | omega | ((repeat' split) <;> omega)) dX4_tell_13
theorem zd_X4_numbersWith : yX4_numbersWith.cls ≠ "java/lang/invoke/MethodHandle" ∧ yX4_numbersWith.cls ≠ "java/lang/invoke/VarHandle" ∧ (parseMethodDescriptor yX4_numbersWith.desc).map (fun d => d.parameters.length) = some 1 := by decide +kernel
set_option maxHeartbeats 4000000 in
set_option maxRecDepth 100000 in
theorem c_X4_numbersWith (l : Launch) (D : va_G) (cI cZ cO : ClassId) (aS : Nat) (f : Int → Int) (hf : ∀ i : Int, 0 ≤ i → i < 32 → 0 ≤ f i ∧ f i < 1000000) : z_Mi l yX4_numbersWith wsX4_numbersWith 0 0 D (z_T cI cZ cO) [.ref aS] [(aS, z_ai cI 32 f)] [(aS, z_ai cI 32 f)] (z_it (fun j a => if 0 < f j then z_or a (z_p2 j) else a) 0 32) := by
  refine z_Mi_of (cc := cX4_numbersWith) (nL := 3) (ret := (some .int)) (by decide +kernel) rfl (Nat.le_of_ble_eq_true rfl) ?_
  intro p e s m args below meth c A Q C hQ
  change z_V p l e { frames := 0, cells := 0, slots := 0, locals := 0 } s m args below meth c D A 3 0 0 Q [(aS, z_ai cI 32 f)] 0 [(0, .ref aS)] []
  refine z_iconst C 0 dX4_numbersWith_0 ?_
  refine z_istore_n C [(1, .int (z_I 0)), (0, .ref aS)] dX4_numbersWith_1 (by decide) rfl ?_
  refine z_iconst C 0 dX4_numbersWith_2 ?_
  refine z_istore_n C [(2, .int (z_I 0)), (1, .int (z_I 0)), (0, .ref aS)] dX4_numbersWith_3 (by decide) rfl ?_
  have loop4 : ∀ (zn : Nat) (j : Int) (a : Int), 0 ≤ j ∧ j ≤ 32 → a = z_it (fun j a => if 0 < f j then z_or a (z_p2 j) else a) 0 j.toNat → (32 - j) < (zn : Int) → z_V p l e { frames := 0, cells := 0, slots := 0, locals := 0 } s m args below meth c D A 3 0 0 Q [(aS, z_ai cI 32 f)] 4 [(2, .int (z_I j)), (1, .int (z_I a)), (0, .ref aS)] [] := by
    intro zn
    induction zn with
    | zero => intro j a hj ha hm; exact absurd hm (by omega)
    | succ zn ih =>
      intro j a hj ha hm
      refine z_iload_n C 0 dX4_numbersWith_4 rfl ?_
      refine z_bipush C 32 dX4_numbersWith_5 (by decide) ?_
      refine z_icmp_ge C 34 dX4_numbersWith_7 (by decide) (by omega) (by omega) (fun hc1 => ?_) (fun hc1 => ?_)
      · skip
        obtain rfl : j = 32 := by omega
        refine z_iload_n C 1 dX4_numbersWith_34 rfl ?_
        exact z_iret C hQ rfl ha dX4_numbersWith_35
      · skip
        have hM := hf j (by omega) (by omega)
        refine z_iload_n C 0 dX4_numbersWith_10 rfl ?_
        refine z_aload_n C 2 dX4_numbersWith_11 rfl ?_
        refine z_alen C 0 0 rfl rfl dX4_numbersWith_12 ?_
        refine z_icmp_ge C 34 dX4_numbersWith_13 (by decide) (by omega) (by omega) (fun hc2 => ?_) (fun hc2 => ?_)
        · exfalso; omega
        · skip
          refine z_aload_n C 2 dX4_numbersWith_16 rfl ?_
          refine z_iload_n C 0 dX4_numbersWith_17 rfl ?_
          refine z_iald C 0 0 rfl rfl (by decide) (by omega) dX4_numbersWith_18 ?_
          refine z_if_le C 28 dX4_numbersWith_19 (by decide) (by omega) (fun hc3 => ?_) (fun hc3 => ?_)
          · skip
            have hz : ¬ 0 < f j := by omega
            refine z_iinc C 0 [(2, .int (z_I (j + 1))), (1, .int (z_I a)), (0, .ref aS)] dX4_numbersWith_28 rfl (by decide) rfl ?_
            refine z_goto C 4 dX4_numbersWith_31 (by decide) ?_
            exact ih (j + 1) a (by first | assumption | omega) (by rw [z_it_next _ _ hj.1, ← ha]; first | rw [if_pos hz] | rw [if_neg hz]) (by omega)
          · skip
            have hz : 0 < f j := by omega
            refine z_iload_n C 1 dX4_numbersWith_22 rfl ?_
            refine z_iconst C 1 dX4_numbersWith_23 ?_
            refine z_iload_n C 0 dX4_numbersWith_24 rfl ?_
            refine z_ishl C (z_p2 j) dX4_numbersWith_25 (z_shl1 (by omega)) ?_
            refine z_ior C (z_or a (z_p2 j)) dX4_numbersWith_26 (z_or_eq _ _) ?_
            refine z_istore_n C [(1, .int (z_I (z_or a (z_p2 j)))), (2, .int (z_I j)), (0, .ref aS)] dX4_numbersWith_27 (by decide) rfl ?_
            refine z_iinc C 1 [(2, .int (z_I (j + 1))), (1, .int (z_I (z_or a (z_p2 j)))), (0, .ref aS)] dX4_numbersWith_28 rfl (by decide) rfl ?_
            refine z_goto C 4 dX4_numbersWith_31 (by decide) ?_
            exact ih (j + 1) (z_or a (z_p2 j)) (by first | assumption | omega) (by rw [z_it_next _ _ hj.1, ← ha]; first | rw [if_pos hz] | rw [if_neg hz]) (by omega)
  exact loop4 33 0 0 (by first | assumption | omega) rfl (by omega)
theorem zi_X4_allNumbers_X4 : ∀ w ∈ u_ws RX4 TX4 5, w ∈ wsX4_allNumbers := by decide +kernel
theorem zl_X4_allNumbers_15 : Cond.fieldLink RX4 15 "RippleCounts$Sightings" "often" "[I" ∈ wsX4_allNumbers := by decide +kernel
theorem zd_X4_allNumbers : yX4_allNumbers.cls ≠ "java/lang/invoke/MethodHandle" ∧ yX4_allNumbers.cls ≠ "java/lang/invoke/VarHandle" ∧ (parseMethodDescriptor yX4_allNumbers.desc).map (fun d => d.parameters.length) = some 0 := by decide +kernel
set_option maxHeartbeats 4000000 in
set_option maxRecDepth 100000 in
theorem c_X4_allNumbers (l : Launch) (D : va_G) (cI cZ cO : ClassId) (hS aS1 aS2 aS3 aS4 : Nat) (sn : Int) (rk fo fl ft : Int → Int) (hf : ∀ i : Int, 0 ≤ i → i < 32 → 0 ≤ fo i ∧ fo i < 1000000) : z_Mi l yX4_allNumbers wsX4_allNumbers 1 22 D (z_T cI cZ cO) [.ref hS] [(hS, .inr (4, [.int (z_I sn), .ref aS1, .ref aS2, .ref aS3, .ref aS4])), (aS1, z_ai cI 32 rk), (aS2, z_ai cI 32 fo), (aS3, z_ai cI 32 fl), (aS4, z_ai cI 32 ft)] [(hS, .inr (4, [.int (z_I sn), .ref aS1, .ref aS2, .ref aS3, .ref aS4])), (aS1, z_ai cI 32 rk), (aS2, z_ai cI 32 fo), (aS3, z_ai cI 32 fl), (aS4, z_ai cI 32 ft)] (z_it (fun j a => if 0 < fo j then z_or a (z_p2 j) else a) 0 32) := by
  refine z_Mi_of (cc := cX4_allNumbers) (nL := 1) (ret := (some .int)) (by decide +kernel) rfl (Nat.le_of_ble_eq_true rfl) ?_
  intro p e s m args below meth c A Q C hQ
  change z_V p l e { frames := 1, cells := 0, slots := 0, locals := 22 } s m args below meth c D A 1 0 0 Q [(hS, .inr (4, [.int (z_I sn), .ref aS1, .ref aS2, .ref aS3, .ref aS4])), (aS1, z_ai cI 32 rk), (aS2, z_ai cI 32 fo), (aS3, z_ai cI 32 fl), (aS4, z_ai cI 32 ft)] 0 [(0, .ref hS)] []
  refine z_aload_n C 0 dX4_allNumbers_0 rfl ?_
  refine z_get C 0 2 zi_X4_allNumbers_X4 rfl rfl (by decide) zl_X4_allNumbers_15 rfl rfl dX4_allNumbers_1 ?_
  refine z_callSi C [2] [(hS, .inr (4, [.int (z_I sn), .ref aS1, .ref aS2, .ref aS3, .ref aS4])), (aS1, z_ai cI 32 rk), (aS2, z_ai cI 32 fo), (aS3, z_ai cI 32 fl), (aS4, z_ai cI 32 ft)] [.ref aS2] [] (c_X4_numbersWith l D cI cZ cO aS2 fo (by first | assumption | omega)) gX4_allNumbers_X4_numbersWith rfl zd_X4_numbersWith rfl (by decide) rfl (by decide) rfl rfl rfl (by decide) (by decide) dX4_allNumbers_4 ?_
  exact z_iret C hQ rfl rfl dX4_allNumbers_7
theorem zi_X4_flashedNumbers_X4 : ∀ w ∈ u_ws RX4 TX4 5, w ∈ wsX4_flashedNumbers := by decide +kernel
theorem zl_X4_flashedNumbers_18 : Cond.fieldLink RX4 18 "RippleCounts$Sightings" "flashes" "[I" ∈ wsX4_flashedNumbers := by decide +kernel
theorem zd_X4_flashedNumbers : yX4_flashedNumbers.cls ≠ "java/lang/invoke/MethodHandle" ∧ yX4_flashedNumbers.cls ≠ "java/lang/invoke/VarHandle" ∧ (parseMethodDescriptor yX4_flashedNumbers.desc).map (fun d => d.parameters.length) = some 0 := by decide +kernel
set_option maxHeartbeats 4000000 in
set_option maxRecDepth 100000 in
theorem c_X4_flashedNumbers (l : Launch) (D : va_G) (cI cZ cO : ClassId) (hS aS1 aS2 aS3 aS4 : Nat) (sn : Int) (rk fo fl ft : Int → Int) (hf : ∀ i : Int, 0 ≤ i → i < 32 → 0 ≤ fl i ∧ fl i < 1000000) : z_Mi l yX4_flashedNumbers wsX4_flashedNumbers 1 22 D (z_T cI cZ cO) [.ref hS] [(hS, .inr (4, [.int (z_I sn), .ref aS1, .ref aS2, .ref aS3, .ref aS4])), (aS1, z_ai cI 32 rk), (aS2, z_ai cI 32 fo), (aS3, z_ai cI 32 fl), (aS4, z_ai cI 32 ft)] [(hS, .inr (4, [.int (z_I sn), .ref aS1, .ref aS2, .ref aS3, .ref aS4])), (aS1, z_ai cI 32 rk), (aS2, z_ai cI 32 fo), (aS3, z_ai cI 32 fl), (aS4, z_ai cI 32 ft)] (z_it (fun j a => if 0 < fl j then z_or a (z_p2 j) else a) 0 32) := by
  refine z_Mi_of (cc := cX4_flashedNumbers) (nL := 1) (ret := (some .int)) (by decide +kernel) rfl (Nat.le_of_ble_eq_true rfl) ?_
  intro p e s m args below meth c A Q C hQ
  change z_V p l e { frames := 1, cells := 0, slots := 0, locals := 22 } s m args below meth c D A 1 0 0 Q [(hS, .inr (4, [.int (z_I sn), .ref aS1, .ref aS2, .ref aS3, .ref aS4])), (aS1, z_ai cI 32 rk), (aS2, z_ai cI 32 fo), (aS3, z_ai cI 32 fl), (aS4, z_ai cI 32 ft)] 0 [(0, .ref hS)] []
  refine z_aload_n C 0 dX4_flashedNumbers_0 rfl ?_
  refine z_get C 0 3 zi_X4_flashedNumbers_X4 rfl rfl (by decide) zl_X4_flashedNumbers_18 rfl rfl dX4_flashedNumbers_1 ?_
  refine z_callSi C [3] [(hS, .inr (4, [.int (z_I sn), .ref aS1, .ref aS2, .ref aS3, .ref aS4])), (aS1, z_ai cI 32 rk), (aS2, z_ai cI 32 fo), (aS3, z_ai cI 32 fl), (aS4, z_ai cI 32 ft)] [.ref aS3] [] (c_X4_numbersWith l D cI cZ cO aS3 fl (by first | assumption | omega)) gX4_flashedNumbers_X4_numbersWith rfl zd_X4_numbersWith rfl (by decide) rfl (by decide) rfl rfl rfl (by decide) (by decide) dX4_flashedNumbers_4 ?_
  exact z_iret C hQ rfl rfl dX4_flashedNumbers_7
end
