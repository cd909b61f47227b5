-- ===== PART A: goes FIRST, ahead of the names: the tables' words, and 'selects' of the private methods out of them =====
/-- a private method of a class that the tables say can be made, by its rows of tables_1 -/
def lw_okq (q : MethodName × Nat) : Prop := (q.1.cls ≠ "java/lang/invoke/MethodHandle" ∧ q.1.cls ≠ "java/lang/invoke/VarHandle") ∧ Cond.instantiable q.1.cls q.2 ∈ tables_1 ∧ Cond.privateMethod q.1 ∈ tables_1 ∧ Cond.instanceMethod q.1 ∈ tables_1
theorem lw_p0 : lw_okq (⟨"MindsByTen$Script", "step", "()V"⟩, 7) := ⟨⟨by decide +kernel, by decide +kernel⟩, List.mem_of_getElem? (i := 23) (by decide +kernel), List.mem_of_getElem? (i := 295) (by decide +kernel), List.mem_of_getElem? (i := 296) (by decide +kernel)⟩
theorem lw_p1 : lw_okq (⟨"MindsByTen$Script", "stepNumber", "()V"⟩, 7) := ⟨⟨by decide +kernel, by decide +kernel⟩, List.mem_of_getElem? (i := 23) (by decide +kernel), List.mem_of_getElem? (i := 302) (by decide +kernel), List.mem_of_getElem? (i := 303) (by decide +kernel)⟩
theorem lw_p2 : lw_okq (⟨"MindsByTen$Script", "tellSeat", "(LMindsByTen$Hall;)V"⟩, 7) := ⟨⟨by decide +kernel, by decide +kernel⟩, List.mem_of_getElem? (i := 23) (by decide +kernel), List.mem_of_getElem? (i := 309) (by decide +kernel), List.mem_of_getElem? (i := 310) (by decide +kernel)⟩
theorem lw_p3 : lw_okq (⟨"MindsByTen$Script", "refuse", "()V"⟩, 7) := ⟨⟨by decide +kernel, by decide +kernel⟩, List.mem_of_getElem? (i := 23) (by decide +kernel), List.mem_of_getElem? (i := 313) (by decide +kernel), List.mem_of_getElem? (i := 314) (by decide +kernel)⟩
theorem lw_p4 : lw_okq (⟨"MindsByTen$Script", "number", "(II)I"⟩, 7) := ⟨⟨by decide +kernel, by decide +kernel⟩, List.mem_of_getElem? (i := 23) (by decide +kernel), List.mem_of_getElem? (i := 317) (by decide +kernel), List.mem_of_getElem? (i := 318) (by decide +kernel)⟩
theorem lw_p5 : lw_okq (⟨"MindsByTen$Script", "tellThing", "(LMindsByTen$Hall;)V"⟩, 7) := ⟨⟨by decide +kernel, by decide +kernel⟩, List.mem_of_getElem? (i := 23) (by decide +kernel), List.mem_of_getElem? (i := 321) (by decide +kernel), List.mem_of_getElem? (i := 322) (by decide +kernel)⟩
theorem lw_p6 : lw_okq (⟨"MindsByTen$Script", "tellHands", "(LMindsByTen$Hall;)V"⟩, 7) := ⟨⟨by decide +kernel, by decide +kernel⟩, List.mem_of_getElem? (i := 23) (by decide +kernel), List.mem_of_getElem? (i := 325) (by decide +kernel), List.mem_of_getElem? (i := 326) (by decide +kernel)⟩
theorem lw_p7 : lw_okq (⟨"MindsByTen$Script", "tellTen", "(LMindsByTen$Hall;)V"⟩, 7) := ⟨⟨by decide +kernel, by decide +kernel⟩, List.mem_of_getElem? (i := 23) (by decide +kernel), List.mem_of_getElem? (i := 329) (by decide +kernel), List.mem_of_getElem? (i := 330) (by decide +kernel)⟩
theorem lw_p8 : lw_okq (⟨"MindsByTen", "beginAnew", "()V"⟩, 12) := ⟨⟨by decide +kernel, by decide +kernel⟩, List.mem_of_getElem? (i := 15) (by decide +kernel), List.mem_of_getElem? (i := 333) (by decide +kernel), List.mem_of_getElem? (i := 334) (by decide +kernel)⟩
theorem lw_p9 : lw_okq (⟨"MindsByTen$Ways", "search", "(LMindsByTen$Hall;I)V"⟩, 7) := ⟨⟨by decide +kernel, by decide +kernel⟩, List.mem_of_getElem? (i := 208) (by decide +kernel), List.mem_of_getElem? (i := 452) (by decide +kernel), List.mem_of_getElem? (i := 453) (by decide +kernel)⟩
theorem lw_p10 : lw_okq (⟨"MindsByTen$Ways", "setMinutes", "(III)V"⟩, 7) := ⟨⟨by decide +kernel, by decide +kernel⟩, List.mem_of_getElem? (i := 208) (by decide +kernel), List.mem_of_getElem? (i := 459) (by decide +kernel), List.mem_of_getElem? (i := 460) (by decide +kernel)⟩
theorem lw_p11 : lw_okq (⟨"MindsByTen$Ways", "offerEnds", "(LMindsByTen$Hall;)V"⟩, 7) := ⟨⟨by decide +kernel, by decide +kernel⟩, List.mem_of_getElem? (i := 208) (by decide +kernel), List.mem_of_getElem? (i := 465) (by decide +kernel), List.mem_of_getElem? (i := 466) (by decide +kernel)⟩
theorem lw_p12 : lw_okq (⟨"MindsByTen$Ways", "offer", "(II)V"⟩, 7) := ⟨⟨by decide +kernel, by decide +kernel⟩, List.mem_of_getElem? (i := 208) (by decide +kernel), List.mem_of_getElem? (i := 472) (by decide +kernel), List.mem_of_getElem? (i := 473) (by decide +kernel)⟩
theorem lw_p13 : lw_okq (⟨"MindsByTen$Ways", "minutes", "(II)I"⟩, 7) := ⟨⟨by decide +kernel, by decide +kernel⟩, List.mem_of_getElem? (i := 208) (by decide +kernel), List.mem_of_getElem? (i := 476) (by decide +kernel), List.mem_of_getElem? (i := 477) (by decide +kernel)⟩
theorem lw_p14 : lw_okq (⟨"MindsByTen$Ways", "unchain", "(II)V"⟩, 7) := ⟨⟨by decide +kernel, by decide +kernel⟩, List.mem_of_getElem? (i := 208) (by decide +kernel), List.mem_of_getElem? (i := 480) (by decide +kernel), List.mem_of_getElem? (i := 481) (by decide +kernel)⟩
theorem lw_p15 : lw_okq (⟨"MindsByTen$Ways", "chain", "(II)V"⟩, 7) := ⟨⟨by decide +kernel, by decide +kernel⟩, List.mem_of_getElem? (i := 208) (by decide +kernel), List.mem_of_getElem? (i := 484) (by decide +kernel), List.mem_of_getElem? (i := 485) (by decide +kernel)⟩
def lw_privs_1 : List (MethodName × Nat) := [(⟨"MindsByTen$Script", "step", "()V"⟩, 7), (⟨"MindsByTen$Script", "stepNumber", "()V"⟩, 7), (⟨"MindsByTen$Script", "tellSeat", "(LMindsByTen$Hall;)V"⟩, 7), (⟨"MindsByTen$Script", "refuse", "()V"⟩, 7), (⟨"MindsByTen$Script", "number", "(II)I"⟩, 7), (⟨"MindsByTen$Script", "tellThing", "(LMindsByTen$Hall;)V"⟩, 7), (⟨"MindsByTen$Script", "tellHands", "(LMindsByTen$Hall;)V"⟩, 7), (⟨"MindsByTen$Script", "tellTen", "(LMindsByTen$Hall;)V"⟩, 7), (⟨"MindsByTen", "beginAnew", "()V"⟩, 12), (⟨"MindsByTen$Ways", "search", "(LMindsByTen$Hall;I)V"⟩, 7), (⟨"MindsByTen$Ways", "setMinutes", "(III)V"⟩, 7), (⟨"MindsByTen$Ways", "offerEnds", "(LMindsByTen$Hall;)V"⟩, 7), (⟨"MindsByTen$Ways", "offer", "(II)V"⟩, 7), (⟨"MindsByTen$Ways", "minutes", "(II)I"⟩, 7), (⟨"MindsByTen$Ways", "unchain", "(II)V"⟩, 7), (⟨"MindsByTen$Ways", "chain", "(II)V"⟩, 7)]
theorem lw_r1 : ∀ q ∈ lw_privs_1, lw_okq q := List.forall_mem_cons.mpr ⟨lw_p0, List.forall_mem_cons.mpr ⟨lw_p1, List.forall_mem_cons.mpr ⟨lw_p2, List.forall_mem_cons.mpr ⟨lw_p3, List.forall_mem_cons.mpr ⟨lw_p4, List.forall_mem_cons.mpr ⟨lw_p5, List.forall_mem_cons.mpr ⟨lw_p6, List.forall_mem_cons.mpr ⟨lw_p7, List.forall_mem_cons.mpr ⟨lw_p8, List.forall_mem_cons.mpr ⟨lw_p9, List.forall_mem_cons.mpr ⟨lw_p10, List.forall_mem_cons.mpr ⟨lw_p11, List.forall_mem_cons.mpr ⟨lw_p12, List.forall_mem_cons.mpr ⟨lw_p13, List.forall_mem_cons.mpr ⟨lw_p14, List.forall_mem_cons.mpr ⟨lw_p15, fun _ h => absurd h List.not_mem_nil⟩⟩⟩⟩⟩⟩⟩⟩⟩⟩⟩⟩⟩⟩⟩⟩
theorem lw_p16 : lw_okq (⟨"MindsByTen$Ways", "weigh", "(LMindsByTen$Hall;II)V"⟩, 7) := ⟨⟨by decide +kernel, by decide +kernel⟩, List.mem_of_getElem? (i := 208) (by decide +kernel), List.mem_of_getElem? (i := 488) (by decide +kernel), List.mem_of_getElem? (i := 489) (by decide +kernel)⟩
theorem lw_p17 : lw_okq (⟨"MindsByTen$Ways", "readDigits", "(I)I"⟩, 7) := ⟨⟨by decide +kernel, by decide +kernel⟩, List.mem_of_getElem? (i := 208) (by decide +kernel), List.mem_of_getElem? (i := 493) (by decide +kernel), List.mem_of_getElem? (i := 494) (by decide +kernel)⟩
theorem lw_p18 : lw_okq (⟨"MindsByTen", "countOutcomes", "(II)I"⟩, 12) := ⟨⟨by decide +kernel, by decide +kernel⟩, List.mem_of_getElem? (i := 15) (by decide +kernel), List.mem_of_getElem? (i := 529) (by decide +kernel), List.mem_of_getElem? (i := 530) (by decide +kernel)⟩
theorem lw_p19 : lw_okq (⟨"MindsByTen", "joinTopics", "()J"⟩, 12) := ⟨⟨by decide +kernel, by decide +kernel⟩, List.mem_of_getElem? (i := 15) (by decide +kernel), List.mem_of_getElem? (i := 541) (by decide +kernel), List.mem_of_getElem? (i := 542) (by decide +kernel)⟩
theorem lw_p20 : lw_okq (⟨"MindsByTen", "joinGroups", "(I)V"⟩, 12) := ⟨⟨by decide +kernel, by decide +kernel⟩, List.mem_of_getElem? (i := 15) (by decide +kernel), List.mem_of_getElem? (i := 549) (by decide +kernel), List.mem_of_getElem? (i := 550) (by decide +kernel)⟩
theorem lw_p21 : lw_okq (⟨"MindsByTen$Claims", "waysToTry", "(LMindsByTen$Hall;)I"⟩, 6) := ⟨⟨by decide +kernel, by decide +kernel⟩, List.mem_of_getElem? (i := 180) (by decide +kernel), List.mem_of_getElem? (i := 575) (by decide +kernel), List.mem_of_getElem? (i := 576) (by decide +kernel)⟩
theorem lw_p22 : lw_okq (⟨"MindsByTen$Claims", "isWay", "(LMindsByTen$Hall;I)Z"⟩, 6) := ⟨⟨by decide +kernel, by decide +kernel⟩, List.mem_of_getElem? (i := 180) (by decide +kernel), List.mem_of_getElem? (i := 579) (by decide +kernel), List.mem_of_getElem? (i := 580) (by decide +kernel)⟩
theorem lw_p23 : lw_okq (⟨"MindsByTen$Claims", "fitsAll", "(LMindsByTen$Hall;I)Z"⟩, 6) := ⟨⟨by decide +kernel, by decide +kernel⟩, List.mem_of_getElem? (i := 180) (by decide +kernel), List.mem_of_getElem? (i := 608) (by decide +kernel), List.mem_of_getElem? (i := 609) (by decide +kernel)⟩
theorem lw_p24 : lw_okq (⟨"MindsByTen", "rateThing", "(I)I"⟩, 12) := ⟨⟨by decide +kernel, by decide +kernel⟩, List.mem_of_getElem? (i := 15) (by decide +kernel), List.mem_of_getElem? (i := 629) (by decide +kernel), List.mem_of_getElem? (i := 630) (by decide +kernel)⟩
theorem lw_p25 : lw_okq (⟨"MindsByTen", "rateComb", "(I)I"⟩, 12) := ⟨⟨by decide +kernel, by decide +kernel⟩, List.mem_of_getElem? (i := 15) (by decide +kernel), List.mem_of_getElem? (i := 633) (by decide +kernel), List.mem_of_getElem? (i := 634) (by decide +kernel)⟩
theorem lw_p26 : lw_okq (⟨"MindsByTen", "rateRoom", "(I)I"⟩, 12) := ⟨⟨by decide +kernel, by decide +kernel⟩, List.mem_of_getElem? (i := 15) (by decide +kernel), List.mem_of_getElem? (i := 638) (by decide +kernel), List.mem_of_getElem? (i := 639) (by decide +kernel)⟩
theorem lw_p27 : lw_okq (⟨"MindsByTen", "rateCurate", "(I)I"⟩, 12) := ⟨⟨by decide +kernel, by decide +kernel⟩, List.mem_of_getElem? (i := 15) (by decide +kernel), List.mem_of_getElem? (i := 643) (by decide +kernel), List.mem_of_getElem? (i := 644) (by decide +kernel)⟩
theorem lw_p28 : lw_okq (⟨"MindsByTen", "rateBishop", "(I)I"⟩, 12) := ⟨⟨by decide +kernel, by decide +kernel⟩, List.mem_of_getElem? (i := 15) (by decide +kernel), List.mem_of_getElem? (i := 648) (by decide +kernel), List.mem_of_getElem? (i := 649) (by decide +kernel)⟩
theorem lw_p29 : lw_okq (⟨"MindsByTen", "rateTwin", "(I)I"⟩, 12) := ⟨⟨by decide +kernel, by decide +kernel⟩, List.mem_of_getElem? (i := 15) (by decide +kernel), List.mem_of_getElem? (i := 653) (by decide +kernel), List.mem_of_getElem? (i := 654) (by decide +kernel)⟩
theorem lw_p30 : lw_okq (⟨"MindsByTenModel", "next", "()V"⟩, 38) := ⟨⟨by decide +kernel, by decide +kernel⟩, List.mem_of_getElem? (i := 675) (by decide +kernel), List.mem_of_getElem? (i := 812) (by decide +kernel), List.mem_of_getElem? (i := 813) (by decide +kernel)⟩
theorem lw_p31 : lw_okq (⟨"MindsByTenModel", "letterAt", "(I)I"⟩, 38) := ⟨⟨by decide +kernel, by decide +kernel⟩, List.mem_of_getElem? (i := 675) (by decide +kernel), List.mem_of_getElem? (i := 816) (by decide +kernel), List.mem_of_getElem? (i := 817) (by decide +kernel)⟩
def lw_privs_2 : List (MethodName × Nat) := [(⟨"MindsByTen$Ways", "weigh", "(LMindsByTen$Hall;II)V"⟩, 7), (⟨"MindsByTen$Ways", "readDigits", "(I)I"⟩, 7), (⟨"MindsByTen", "countOutcomes", "(II)I"⟩, 12), (⟨"MindsByTen", "joinTopics", "()J"⟩, 12), (⟨"MindsByTen", "joinGroups", "(I)V"⟩, 12), (⟨"MindsByTen$Claims", "waysToTry", "(LMindsByTen$Hall;)I"⟩, 6), (⟨"MindsByTen$Claims", "isWay", "(LMindsByTen$Hall;I)Z"⟩, 6), (⟨"MindsByTen$Claims", "fitsAll", "(LMindsByTen$Hall;I)Z"⟩, 6), (⟨"MindsByTen", "rateThing", "(I)I"⟩, 12), (⟨"MindsByTen", "rateComb", "(I)I"⟩, 12), (⟨"MindsByTen", "rateRoom", "(I)I"⟩, 12), (⟨"MindsByTen", "rateCurate", "(I)I"⟩, 12), (⟨"MindsByTen", "rateBishop", "(I)I"⟩, 12), (⟨"MindsByTen", "rateTwin", "(I)I"⟩, 12), (⟨"MindsByTenModel", "next", "()V"⟩, 38), (⟨"MindsByTenModel", "letterAt", "(I)I"⟩, 38)]
theorem lw_r2 : ∀ q ∈ lw_privs_2, lw_okq q := List.forall_mem_cons.mpr ⟨lw_p16, List.forall_mem_cons.mpr ⟨lw_p17, List.forall_mem_cons.mpr ⟨lw_p18, List.forall_mem_cons.mpr ⟨lw_p19, List.forall_mem_cons.mpr ⟨lw_p20, List.forall_mem_cons.mpr ⟨lw_p21, List.forall_mem_cons.mpr ⟨lw_p22, List.forall_mem_cons.mpr ⟨lw_p23, List.forall_mem_cons.mpr ⟨lw_p24, List.forall_mem_cons.mpr ⟨lw_p25, List.forall_mem_cons.mpr ⟨lw_p26, List.forall_mem_cons.mpr ⟨lw_p27, List.forall_mem_cons.mpr ⟨lw_p28, List.forall_mem_cons.mpr ⟨lw_p29, List.forall_mem_cons.mpr ⟨lw_p30, List.forall_mem_cons.mpr ⟨lw_p31, fun _ h => absurd h List.not_mem_nil⟩⟩⟩⟩⟩⟩⟩⟩⟩⟩⟩⟩⟩⟩⟩⟩
theorem lw_p32 : lw_okq (⟨"MindsByTenModel", "readItem", "()V"⟩, 38) := ⟨⟨by decide +kernel, by decide +kernel⟩, List.mem_of_getElem? (i := 675) (by decide +kernel), List.mem_of_getElem? (i := 823) (by decide +kernel), List.mem_of_getElem? (i := 824) (by decide +kernel)⟩
theorem lw_p33 : lw_okq (⟨"MindsByTenModel", "readSeat", "()V"⟩, 38) := ⟨⟨by decide +kernel, by decide +kernel⟩, List.mem_of_getElem? (i := 675) (by decide +kernel), List.mem_of_getElem? (i := 827) (by decide +kernel), List.mem_of_getElem? (i := 828) (by decide +kernel)⟩
theorem lw_p34 : lw_okq (⟨"MindsByTenModel", "takesNumber", "(II)I"⟩, 38) := ⟨⟨by decide +kernel, by decide +kernel⟩, List.mem_of_getElem? (i := 675) (by decide +kernel), List.mem_of_getElem? (i := 831) (by decide +kernel), List.mem_of_getElem? (i := 832) (by decide +kernel)⟩
theorem lw_p35 : lw_okq (⟨"MindsByTenModel", "readThing", "()V"⟩, 38) := ⟨⟨by decide +kernel, by decide +kernel⟩, List.mem_of_getElem? (i := 675) (by decide +kernel), List.mem_of_getElem? (i := 835) (by decide +kernel), List.mem_of_getElem? (i := 836) (by decide +kernel)⟩
theorem lw_p36 : lw_okq (⟨"MindsByTenModel", "settles", "()V"⟩, 38) := ⟨⟨by decide +kernel, by decide +kernel⟩, List.mem_of_getElem? (i := 675) (by decide +kernel), List.mem_of_getElem? (i := 839) (by decide +kernel), List.mem_of_getElem? (i := 840) (by decide +kernel)⟩
theorem lw_p37 : lw_okq (⟨"MindsByTenModel", "isSeat", "(I)Z"⟩, 38) := ⟨⟨by decide +kernel, by decide +kernel⟩, List.mem_of_getElem? (i := 675) (by decide +kernel), List.mem_of_getElem? (i := 847) (by decide +kernel), List.mem_of_getElem? (i := 848) (by decide +kernel)⟩
theorem lw_p38 : lw_okq (⟨"MindsByTenModel", "inMind", "(I)I"⟩, 38) := ⟨⟨by decide +kernel, by decide +kernel⟩, List.mem_of_getElem? (i := 675) (by decide +kernel), List.mem_of_getElem? (i := 851) (by decide +kernel), List.mem_of_getElem? (i := 852) (by decide +kernel)⟩
theorem lw_p39 : lw_okq (⟨"MindsByTenModel", "way", "(II)I"⟩, 38) := ⟨⟨by decide +kernel, by decide +kernel⟩, List.mem_of_getElem? (i := 675) (by decide +kernel), List.mem_of_getElem? (i := 855) (by decide +kernel), List.mem_of_getElem? (i := 856) (by decide +kernel)⟩
theorem lw_p40 : lw_okq (⟨"MindsByTenModel", "isThing", "(I)Z"⟩, 38) := ⟨⟨by decide +kernel, by decide +kernel⟩, List.mem_of_getElem? (i := 675) (by decide +kernel), List.mem_of_getElem? (i := 866) (by decide +kernel), List.mem_of_getElem? (i := 867) (by decide +kernel)⟩
theorem lw_p41 : lw_okq (⟨"MindsByTenModel", "strays", "()I"⟩, 38) := ⟨⟨by decide +kernel, by decide +kernel⟩, List.mem_of_getElem? (i := 675) (by decide +kernel), List.mem_of_getElem? (i := 877) (by decide +kernel), List.mem_of_getElem? (i := 878) (by decide +kernel)⟩
theorem lw_p42 : lw_okq (⟨"MindsByTenModel", "remembers", "()V"⟩, 38) := ⟨⟨by decide +kernel, by decide +kernel⟩, List.mem_of_getElem? (i := 675) (by decide +kernel), List.mem_of_getElem? (i := 885) (by decide +kernel), List.mem_of_getElem? (i := 886) (by decide +kernel)⟩
theorem lw_p43 : lw_okq (⟨"MindsByTenModel", "finds", "()V"⟩, 38) := ⟨⟨by decide +kernel, by decide +kernel⟩, List.mem_of_getElem? (i := 675) (by decide +kernel), List.mem_of_getElem? (i := 915) (by decide +kernel), List.mem_of_getElem? (i := 916) (by decide +kernel)⟩
theorem lw_p44 : lw_okq (⟨"MindsByTenModel", "isBack", "(I)Z"⟩, 38) := ⟨⟨by decide +kernel, by decide +kernel⟩, List.mem_of_getElem? (i := 675) (by decide +kernel), List.mem_of_getElem? (i := 922) (by decide +kernel), List.mem_of_getElem? (i := 923) (by decide +kernel)⟩
theorem lw_p45 : lw_okq (⟨"MindsByTenModel", "goesBack", "(I)V"⟩, 38) := ⟨⟨by decide +kernel, by decide +kernel⟩, List.mem_of_getElem? (i := 675) (by decide +kernel), List.mem_of_getElem? (i := 930) (by decide +kernel), List.mem_of_getElem? (i := 931) (by decide +kernel)⟩
theorem lw_p46 : lw_okq (⟨"MindsByTenModel", "comesBy", "(II)V"⟩, 38) := ⟨⟨by decide +kernel, by decide +kernel⟩, List.mem_of_getElem? (i := 675) (by decide +kernel), List.mem_of_getElem? (i := 934) (by decide +kernel), List.mem_of_getElem? (i := 935) (by decide +kernel)⟩
theorem lw_p47 : lw_okq (⟨"MindsByTenModel", "handsOf", "(I)I"⟩, 38) := ⟨⟨by decide +kernel, by decide +kernel⟩, List.mem_of_getElem? (i := 675) (by decide +kernel), List.mem_of_getElem? (i := 938) (by decide +kernel), List.mem_of_getElem? (i := 939) (by decide +kernel)⟩
def lw_privs_3 : List (MethodName × Nat) := [(⟨"MindsByTenModel", "readItem", "()V"⟩, 38), (⟨"MindsByTenModel", "readSeat", "()V"⟩, 38), (⟨"MindsByTenModel", "takesNumber", "(II)I"⟩, 38), (⟨"MindsByTenModel", "readThing", "()V"⟩, 38), (⟨"MindsByTenModel", "settles", "()V"⟩, 38), (⟨"MindsByTenModel", "isSeat", "(I)Z"⟩, 38), (⟨"MindsByTenModel", "inMind", "(I)I"⟩, 38), (⟨"MindsByTenModel", "way", "(II)I"⟩, 38), (⟨"MindsByTenModel", "isThing", "(I)Z"⟩, 38), (⟨"MindsByTenModel", "strays", "()I"⟩, 38), (⟨"MindsByTenModel", "remembers", "()V"⟩, 38), (⟨"MindsByTenModel", "finds", "()V"⟩, 38), (⟨"MindsByTenModel", "isBack", "(I)Z"⟩, 38), (⟨"MindsByTenModel", "goesBack", "(I)V"⟩, 38), (⟨"MindsByTenModel", "comesBy", "(II)V"⟩, 38), (⟨"MindsByTenModel", "handsOf", "(I)I"⟩, 38)]
theorem lw_r3 : ∀ q ∈ lw_privs_3, lw_okq q := List.forall_mem_cons.mpr ⟨lw_p32, List.forall_mem_cons.mpr ⟨lw_p33, List.forall_mem_cons.mpr ⟨lw_p34, List.forall_mem_cons.mpr ⟨lw_p35, List.forall_mem_cons.mpr ⟨lw_p36, List.forall_mem_cons.mpr ⟨lw_p37, List.forall_mem_cons.mpr ⟨lw_p38, List.forall_mem_cons.mpr ⟨lw_p39, List.forall_mem_cons.mpr ⟨lw_p40, List.forall_mem_cons.mpr ⟨lw_p41, List.forall_mem_cons.mpr ⟨lw_p42, List.forall_mem_cons.mpr ⟨lw_p43, List.forall_mem_cons.mpr ⟨lw_p44, List.forall_mem_cons.mpr ⟨lw_p45, List.forall_mem_cons.mpr ⟨lw_p46, List.forall_mem_cons.mpr ⟨lw_p47, fun _ h => absurd h List.not_mem_nil⟩⟩⟩⟩⟩⟩⟩⟩⟩⟩⟩⟩⟩⟩⟩⟩
theorem lw_p48 : lw_okq (⟨"MindsByTenModel", "nowAs", "()I"⟩, 38) := ⟨⟨by decide +kernel, by decide +kernel⟩, List.mem_of_getElem? (i := 675) (by decide +kernel), List.mem_of_getElem? (i := 945) (by decide +kernel), List.mem_of_getElem? (i := 946) (by decide +kernel)⟩
theorem lw_p49 : lw_okq (⟨"MindsByTenModel", "leastWith", "(I)I"⟩, 38) := ⟨⟨by decide +kernel, by decide +kernel⟩, List.mem_of_getElem? (i := 675) (by decide +kernel), List.mem_of_getElem? (i := 953) (by decide +kernel), List.mem_of_getElem? (i := 954) (by decide +kernel)⟩
theorem lw_p50 : lw_okq (⟨"MindsByTenModel", "isWay", "(I)Z"⟩, 38) := ⟨⟨by decide +kernel, by decide +kernel⟩, List.mem_of_getElem? (i := 675) (by decide +kernel), List.mem_of_getElem? (i := 984) (by decide +kernel), List.mem_of_getElem? (i := 985) (by decide +kernel)⟩
theorem lw_p51 : lw_okq (⟨"MindsByTenModel", "nearestTo", "(I)I"⟩, 38) := ⟨⟨by decide +kernel, by decide +kernel⟩, List.mem_of_getElem? (i := 675) (by decide +kernel), List.mem_of_getElem? (i := 996) (by decide +kernel), List.mem_of_getElem? (i := 997) (by decide +kernel)⟩
def lw_privs_4 : List (MethodName × Nat) := [(⟨"MindsByTenModel", "nowAs", "()I"⟩, 38), (⟨"MindsByTenModel", "leastWith", "(I)I"⟩, 38), (⟨"MindsByTenModel", "isWay", "(I)Z"⟩, 38), (⟨"MindsByTenModel", "nearestTo", "(I)I"⟩, 38)]
theorem lw_r4 : ∀ q ∈ lw_privs_4, lw_okq q := List.forall_mem_cons.mpr ⟨lw_p48, List.forall_mem_cons.mpr ⟨lw_p49, List.forall_mem_cons.mpr ⟨lw_p50, List.forall_mem_cons.mpr ⟨lw_p51, fun _ h => absurd h List.not_mem_nil⟩⟩⟩⟩
def lw_privs : List (MethodName × Nat) := lw_privs_1 ++ (lw_privs_2 ++ (lw_privs_3 ++ (lw_privs_4)))
def lw_tbl : List Cond := k2_sels lw_privs ++ tables_1
theorem lw_privs_ok : ∀ q ∈ lw_privs, lw_okq q := by
  show ∀ q ∈ lw_privs_1 ++ (lw_privs_2 ++ (lw_privs_3 ++ (lw_privs_4))), lw_okq q
  exact List.forall_mem_append.mpr ⟨lw_r1, List.forall_mem_append.mpr ⟨lw_r2, List.forall_mem_append.mpr ⟨lw_r3, lw_r4⟩⟩⟩
-- ===== names of the classes, fields, methods (begun from the printed names) =====
def RX0 : String := "MindsByTen$Claims"
def TX0 : u_T := fun k => match k with
  | 0 => ("MindsByTen$Claims", "felt", "I", false)
  | 1 => ("MindsByTen$Claims", "told", "I", false)
  | 2 => ("MindsByTen$Claims", "feltMarks", "[I", true)
  | 3 => ("MindsByTen$Claims", "thing", "[I", true)
  | 4 => ("MindsByTen$Claims", "from", "[I", true)
  | _ => ("MindsByTen$Claims", "to", "[I", true)
def tyX0 : Nat → FieldType := fun k => match k with
  | 0 => .int
  | 1 => .int
  | 2 => .array .int
  | 3 => .array .int
  | 4 => .array .int
  | _ => .array .int
theorem nmX0 : ∀ a, a < 6 → ∀ b, b < 6 → a ≠ b → (TX0 a).2.1 ≠ (TX0 b).2.1 := by decide +kernel
theorem tyX0_ok : ∀ k, k < 6 → parseFieldDescriptor (TX0 k).2.2.1 = some (tyX0 k) := by decide +kernel
abbrev cX0_init : ByteArray := prog_2_method_1_code
def yX0_init : MethodName := ⟨RX0, "<init>", "()V"⟩
abbrev cX0_drop : ByteArray := prog_2_method_2_code
def yX0_drop : MethodName := ⟨RX0, "drop", "()V"⟩
abbrev cX0_addFelt : ByteArray := prog_2_method_3_code
def yX0_addFelt : MethodName := ⟨RX0, "addFelt", "(I)Z"⟩
abbrev cX0_addTold : ByteArray := prog_2_method_4_code
def yX0_addTold : MethodName := ⟨RX0, "addTold", "(III)Z"⟩
abbrev cX0_countWays : ByteArray := prog_2_method_5_code
def yX0_countWays : MethodName := ⟨RX0, "countWays", "(LMindsByTen$Hall;)I"⟩
abbrev cX0_candidates : ByteArray := prog_2_method_6_code
def yX0_candidates : MethodName := ⟨RX0, "candidates", "(LMindsByTen$Hall;I)I"⟩
abbrev cX0_waysToTry : ByteArray := prog_2_method_7_code
def yX0_waysToTry : MethodName := ⟨RX0, "waysToTry", "(LMindsByTen$Hall;)I"⟩
abbrev cX0_thingIn : ByteArray := prog_2_method_8_code
def yX0_thingIn : MethodName := ⟨RX0, "thingIn", "(II)I"⟩
abbrev cX0_isWay : ByteArray := prog_2_method_9_code
def yX0_isWay : MethodName := ⟨RX0, "isWay", "(LMindsByTen$Hall;I)Z"⟩
abbrev cX0_lawsThatFit : ByteArray := prog_2_method_10_code
def yX0_lawsThatFit : MethodName := ⟨RX0, "lawsThatFit", "(LMindsByTen$Hall;)I"⟩
abbrev cX0_fitsAll : ByteArray := prog_2_method_11_code
def yX0_fitsAll : MethodName := ⟨RX0, "fitsAll", "(LMindsByTen$Hall;I)Z"⟩
abbrev cX0_seatByLaw : ByteArray := prog_2_method_12_code
def yX0_seatByLaw : MethodName := ⟨RX0, "seatByLaw", "(LMindsByTen$Hall;III)I"⟩
def RX1 : String := "MindsByTen$Hall"
def TX1 : u_T := fun k => match k with
  | 0 => ("MindsByTen$Hall", "seats", "I", false)
  | 1 => ("MindsByTen$Hall", "things", "I", false)
  | 2 => ("MindsByTen$Hall", "hands", "I", false)
  | 3 => ("MindsByTen$Hall", "ten", "I", false)
  | 4 => ("MindsByTen$Hall", "handsTold", "Z", false)
  | 5 => ("MindsByTen$Hall", "tenTold", "Z", false)
  | 6 => ("MindsByTen$Hall", "x", "[I", true)
  | 7 => ("MindsByTen$Hall", "y", "[I", true)
  | 8 => ("MindsByTen$Hall", "owner", "[I", true)
  | 9 => ("MindsByTen$Hall", "marks", "[I", true)
  | 10 => ("MindsByTen$Hall", "topicA", "[I", true)
  | _ => ("MindsByTen$Hall", "topicB", "[I", true)
def tyX1 : Nat → FieldType := fun k => match k with
  | 0 => .int
  | 1 => .int
  | 2 => .int
  | 3 => .int
  | 4 => .boolean
  | 5 => .boolean
  | 6 => .array .int
  | 7 => .array .int
  | 8 => .array .int
  | 9 => .array .int
  | 10 => .array .int
  | _ => .array .int
theorem nmX1 : ∀ a, a < 12 → ∀ b, b < 12 → a ≠ b → (TX1 a).2.1 ≠ (TX1 b).2.1 := by decide +kernel
theorem tyX1_ok : ∀ k, k < 12 → parseFieldDescriptor (TX1 k).2.2.1 = some (tyX1 k) := by decide +kernel
abbrev cX1_init : ByteArray := prog_3_method_1_code
def yX1_init : MethodName := ⟨RX1, "<init>", "()V"⟩
abbrev cX1_empty : ByteArray := prog_3_method_2_code
def yX1_empty : MethodName := ⟨RX1, "empty", "()V"⟩
abbrev cX1_hasSeat : ByteArray := prog_3_method_3_code
def yX1_hasSeat : MethodName := ⟨RX1, "hasSeat", "(I)Z"⟩
abbrev cX1_hasThing : ByteArray := prog_3_method_4_code
def yX1_hasThing : MethodName := ⟨RX1, "hasThing", "(I)Z"⟩
abbrev cX1_way : ByteArray := prog_3_method_5_code
def yX1_way : MethodName := ⟨RX1, "way", "(II)I"⟩
abbrev cX1_nearestTo : ByteArray := prog_3_method_6_code
def yX1_nearestTo : MethodName := ⟨RX1, "nearestTo", "(I)I"⟩
def RX2 : String := "MindsByTen$Memory"
def TX2 : u_T := fun k => match k with
  | 0 => ("MindsByTen$Memory", "moments", "[LMindsByTen$Moment;", true)
  | 1 => ("MindsByTen$Memory", "many", "I", false)
  | _ => ("MindsByTen$Memory", "next", "I", false)
def tyX2 : Nat → FieldType := fun k => match k with
  | 0 => .array (.object "MindsByTen$Moment")
  | 1 => .int
  | _ => .int
theorem nmX2 : ∀ a, a < 3 → ∀ b, b < 3 → a ≠ b → (TX2 a).2.1 ≠ (TX2 b).2.1 := by decide +kernel
theorem tyX2_ok : ∀ k, k < 3 → parseFieldDescriptor (TX2 k).2.2.1 = some (tyX2 k) := by decide +kernel
abbrev cX2_init : ByteArray := prog_4_method_1_code
def yX2_init : MethodName := ⟨RX2, "<init>", "()V"⟩
abbrev cX2_push : ByteArray := prog_4_method_2_code
def yX2_push : MethodName := ⟨RX2, "push", "(LMindsByTen$Moment;)V"⟩
abbrev cX2_popInto : ByteArray := prog_4_method_3_code
def yX2_popInto : MethodName := ⟨RX2, "popInto", "(LMindsByTen$Moment;)Z"⟩
def RX3 : String := "MindsByTen$Moment"
def TX3 : u_T := fun k => match k with
  | 0 => ("MindsByTen$Moment", "minute", "I", false)
  | 1 => ("MindsByTen$Moment", "at", "I", false)
  | 2 => ("MindsByTen$Moment", "read", "I", false)
  | _ => ("MindsByTen$Moment", "where", "[I", true)
def tyX3 : Nat → FieldType := fun k => match k with
  | 0 => .int
  | 1 => .int
  | 2 => .int
  | _ => .array .int
theorem nmX3 : ∀ a, a < 4 → ∀ b, b < 4 → a ≠ b → (TX3 a).2.1 ≠ (TX3 b).2.1 := by decide +kernel
theorem tyX3_ok : ∀ k, k < 4 → parseFieldDescriptor (TX3 k).2.2.1 = some (tyX3 k) := by decide +kernel
abbrev cX3_init : ByteArray := prog_5_method_1_code
def yX3_init : MethodName := ⟨RX3, "<init>", "()V"⟩
abbrev cX3_begin : ByteArray := prog_5_method_2_code
def yX3_begin : MethodName := ⟨RX3, "begin", "(LMindsByTen$Hall;)V"⟩
abbrev cX3_become : ByteArray := prog_5_method_3_code
def yX3_become : MethodName := ⟨RX3, "become", "(LMindsByTen$Moment;)V"⟩
abbrev cX3_hasRead : ByteArray := prog_5_method_4_code
def yX3_hasRead : MethodName := ⟨RX3, "hasRead", "(I)Z"⟩
abbrev cX3_thingsAt : ByteArray := prog_5_method_5_code
def yX3_thingsAt : MethodName := ⟨RX3, "thingsAt", "(ILMindsByTen$Hall;)I"⟩
abbrev cX3_held : ByteArray := prog_5_method_6_code
def yX3_held : MethodName := ⟨RX3, "held", "(LMindsByTen$Hall;)I"⟩
abbrev cX3_strays : ByteArray := prog_5_method_7_code
def yX3_strays : MethodName := ⟨RX3, "strays", "(LMindsByTen$Hall;)I"⟩
abbrev cX3_mayTake : ByteArray := prog_5_method_8_code
def yX3_mayTake : MethodName := ⟨RX3, "mayTake", "(ILMindsByTen$Hall;)Z"⟩
abbrev cX3_mayLeave : ByteArray := prog_5_method_9_code
def yX3_mayLeave : MethodName := ⟨RX3, "mayLeave", "(I)Z"⟩
def RX4 : String := "MindsByTen$Script"
def TX4 : u_T := fun k => match k with
  | 0 => ("MindsByTen$Script", "letters", "[C", true)
  | 1 => ("MindsByTen$Script", "length", "I", false)
  | 2 => ("MindsByTen$Script", "fault", "I", false)
  | 3 => ("MindsByTen$Script", "behind", "I", false)
  | 4 => ("MindsByTen$Script", "place", "I", false)
  | 5 => ("MindsByTen$Script", "kind", "I", false)
  | _ => ("MindsByTen$Script", "value", "I", false)
def tyX4 : Nat → FieldType := fun k => match k with
  | 0 => .array .char
  | 1 => .int
  | 2 => .int
  | 3 => .int
  | 4 => .int
  | 5 => .int
  | _ => .int
theorem nmX4 : ∀ a, a < 7 → ∀ b, b < 7 → a ≠ b → (TX4 a).2.1 ≠ (TX4 b).2.1 := by decide +kernel
theorem tyX4_ok : ∀ k, k < 7 → parseFieldDescriptor (TX4 k).2.2.1 = some (tyX4 k) := by decide +kernel
abbrev cX4_init : ByteArray := prog_6_method_1_code
def yX4_init : MethodName := ⟨RX4, "<init>", "()V"⟩
abbrev cX4_append : ByteArray := prog_6_method_2_code
def yX4_append : MethodName := ⟨RX4, "append", "(C)Z"⟩
abbrev cX4_tell : ByteArray := prog_6_method_3_code
def yX4_tell : MethodName := ⟨RX4, "tell", "(LMindsByTen$Hall;)I"⟩
abbrev cX4_tellSeat : ByteArray := prog_6_method_4_code
def yX4_tellSeat : MethodName := ⟨RX4, "tellSeat", "(LMindsByTen$Hall;)V"⟩
abbrev cX4_tellThing : ByteArray := prog_6_method_5_code
def yX4_tellThing : MethodName := ⟨RX4, "tellThing", "(LMindsByTen$Hall;)V"⟩
abbrev cX4_tellHands : ByteArray := prog_6_method_6_code
def yX4_tellHands : MethodName := ⟨RX4, "tellHands", "(LMindsByTen$Hall;)V"⟩
abbrev cX4_tellTen : ByteArray := prog_6_method_7_code
def yX4_tellTen : MethodName := ⟨RX4, "tellTen", "(LMindsByTen$Hall;)V"⟩
abbrev cX4_number : ByteArray := prog_6_method_8_code
def yX4_number : MethodName := ⟨RX4, "number", "(II)I"⟩
abbrev cX4_refuse : ByteArray := prog_6_method_9_code
def yX4_refuse : MethodName := ⟨RX4, "refuse", "()V"⟩
abbrev cX4_step : ByteArray := prog_6_method_10_code
def yX4_step : MethodName := ⟨RX4, "step", "()V"⟩
abbrev cX4_stepNumber : ByteArray := prog_6_method_11_code
def yX4_stepNumber : MethodName := ⟨RX4, "stepNumber", "()V"⟩
abbrev cX4_isDigit : ByteArray := prog_6_method_12_code
def yX4_isDigit : MethodName := ⟨RX4, "isDigit", "(C)Z"⟩
def RX5 : String := "MindsByTen$Ways"
def TX5 : u_T := fun k => match k with
  | 0 => ("MindsByTen$Ways", "table", "[J", true)
  | 1 => ("MindsByTen$Ways", "first", "[I", true)
  | 2 => ("MindsByTen$Ways", "after", "[I", true)
  | 3 => ("MindsByTen$Ways", "ahead", "[I", true)
  | 4 => ("MindsByTen$Ways", "digit", "[I", true)
  | 5 => ("MindsByTen$Ways", "known", "I", false)
  | _ => ("MindsByTen$Ways", "goal", "I", false)
def tyX5 : Nat → FieldType := fun k => match k with
  | 0 => .array .long
  | 1 => .array .int
  | 2 => .array .int
  | 3 => .array .int
  | 4 => .array .int
  | 5 => .int
  | _ => .int
theorem nmX5 : ∀ a, a < 7 → ∀ b, b < 7 → a ≠ b → (TX5 a).2.1 ≠ (TX5 b).2.1 := by decide +kernel
theorem tyX5_ok : ∀ k, k < 7 → parseFieldDescriptor (TX5 k).2.2.1 = some (tyX5 k) := by decide +kernel
abbrev cX5_init : ByteArray := prog_7_method_1_code
def yX5_init : MethodName := ⟨RX5, "<init>", "()V"⟩
abbrev cX5_drop : ByteArray := prog_7_method_2_code
def yX5_drop : MethodName := ⟨RX5, "drop", "()V"⟩
abbrev cX5_fewest : ByteArray := prog_7_method_3_code
def yX5_fewest : MethodName := ⟨RX5, "fewest", "(LMindsByTen$Hall;LMindsByTen$Moment;I)I"⟩
abbrev cX5_firstStep : ByteArray := prog_7_method_4_code
def yX5_firstStep : MethodName := ⟨RX5, "firstStep", "(LMindsByTen$Hall;LMindsByTen$Moment;)I"⟩
abbrev cX5_stateOf : ByteArray := prog_7_method_5_code
def yX5_stateOf : MethodName := ⟨RX5, "stateOf", "(LMindsByTen$Hall;LMindsByTen$Moment;)I"⟩
abbrev cX5_digitOf : ByteArray := prog_7_method_6_code
def yX5_digitOf : MethodName := ⟨RX5, "digitOf", "(LMindsByTen$Hall;LMindsByTen$Moment;I)I"⟩
abbrev cX5_minutes : ByteArray := prog_7_method_7_code
def yX5_minutes : MethodName := ⟨RX5, "minutes", "(II)I"⟩
abbrev cX5_setMinutes : ByteArray := prog_7_method_8_code
def yX5_setMinutes : MethodName := ⟨RX5, "setMinutes", "(III)V"⟩
abbrev cX5_search : ByteArray := prog_7_method_9_code
def yX5_search : MethodName := ⟨RX5, "search", "(LMindsByTen$Hall;I)V"⟩
abbrev cX5_offerEnds : ByteArray := prog_7_method_10_code
def yX5_offerEnds : MethodName := ⟨RX5, "offerEnds", "(LMindsByTen$Hall;)V"⟩
abbrev cX5_weigh : ByteArray := prog_7_method_11_code
def yX5_weigh : MethodName := ⟨RX5, "weigh", "(LMindsByTen$Hall;II)V"⟩
abbrev cX5_readDigits : ByteArray := prog_7_method_12_code
def yX5_readDigits : MethodName := ⟨RX5, "readDigits", "(I)I"⟩
abbrev cX5_offer : ByteArray := prog_7_method_13_code
def yX5_offer : MethodName := ⟨RX5, "offer", "(II)V"⟩
abbrev cX5_chain : ByteArray := prog_7_method_14_code
def yX5_chain : MethodName := ⟨RX5, "chain", "(II)V"⟩
abbrev cX5_unchain : ByteArray := prog_7_method_15_code
def yX5_unchain : MethodName := ⟨RX5, "unchain", "(II)V"⟩
def RX6 : String := "MindsByTen"
def TX6 : u_T := fun k => match k with
  | 0 => ("MindsByTen", "script", "LMindsByTen$Script;", true)
  | 1 => ("MindsByTen", "hall", "LMindsByTen$Hall;", false)
  | 2 => ("MindsByTen", "spare", "LMindsByTen$Hall;", false)
  | 3 => ("MindsByTen", "now", "LMindsByTen$Moment;", true)
  | 4 => ("MindsByTen", "memory", "LMindsByTen$Memory;", true)
  | 5 => ("MindsByTen", "images", "[LMindsByTen$Moment;", true)
  | 6 => ("MindsByTen", "kept", "[Z", true)
  | 7 => ("MindsByTen", "claims", "LMindsByTen$Claims;", true)
  | 8 => ("MindsByTen", "ways", "LMindsByTen$Ways;", true)
  | 9 => ("MindsByTen", "together", "[I", true)
  | 10 => ("MindsByTen", "outcomes", "[I", true)
  | _ => ("MindsByTen", "trace", "J", false)
def tyX6 : Nat → FieldType := fun k => match k with
  | 0 => .object "MindsByTen$Script"
  | 1 => .object "MindsByTen$Hall"
  | 2 => .object "MindsByTen$Hall"
  | 3 => .object "MindsByTen$Moment"
  | 4 => .object "MindsByTen$Memory"
  | 5 => .array (.object "MindsByTen$Moment")
  | 6 => .array .boolean
  | 7 => .object "MindsByTen$Claims"
  | 8 => .object "MindsByTen$Ways"
  | 9 => .array .int
  | 10 => .array .int
  | _ => .long
theorem nmX6 : ∀ a, a < 12 → ∀ b, b < 12 → a ≠ b → (TX6 a).2.1 ≠ (TX6 b).2.1 := by decide +kernel
theorem tyX6_ok : ∀ k, k < 12 → parseFieldDescriptor (TX6 k).2.2.1 = some (tyX6 k) := by decide +kernel
abbrev cX6_init : ByteArray := prog_1_method_1_code
def yX6_init : MethodName := ⟨RX6, "<init>", "()V"⟩
abbrev cX6_type : ByteArray := prog_1_method_2_code
def yX6_type : MethodName := ⟨RX6, "type", "(I)I"⟩
abbrev cX6_clear : ByteArray := prog_1_method_3_code
def yX6_clear : MethodName := ⟨RX6, "clear", "()I"⟩
abbrev cX6_hall : ByteArray := prog_1_method_4_code
def yX6_hall : MethodName := ⟨RX6, "hall", "()I"⟩
abbrev cX6_beginAnew : ByteArray := prog_1_method_5_code
def yX6_beginAnew : MethodName := ⟨RX6, "beginAnew", "()V"⟩
abbrev cX6_seat : ByteArray := prog_1_method_6_code
def yX6_seat : MethodName := ⟨RX6, "seat", "(II)I"⟩
abbrev cX6_thing : ByteArray := prog_1_method_7_code
def yX6_thing : MethodName := ⟨RX6, "thing", "(II)I"⟩
abbrev cX6_now : ByteArray := prog_1_method_8_code
def yX6_now : MethodName := ⟨RX6, "now", "(I)I"⟩
abbrev cX6_goes : ByteArray := prog_1_method_9_code
def yX6_goes : MethodName := ⟨RX6, "goes", "(I)I"⟩
abbrev cX6_takes : ByteArray := prog_1_method_10_code
def yX6_takes : MethodName := ⟨RX6, "takes", "(I)I"⟩
abbrev cX6_leaves : ByteArray := prog_1_method_11_code
def yX6_leaves : MethodName := ⟨RX6, "leaves", "(I)I"⟩
abbrev cX6_encores : ByteArray := prog_1_method_12_code
def yX6_encores : MethodName := ⟨RX6, "encores", "(I)I"⟩
abbrev cX6_undo : ByteArray := prog_1_method_13_code
def yX6_undo : MethodName := ⟨RX6, "undo", "()I"⟩
abbrev cX6_back : ByteArray := prog_1_method_14_code
def yX6_back : MethodName := ⟨RX6, "back", "(I)I"⟩
abbrev cX6_left : ByteArray := prog_1_method_15_code
def yX6_left : MethodName := ⟨RX6, "left", "()I"⟩
abbrev cX6_see : ByteArray := prog_1_method_16_code
def yX6_see : MethodName := ⟨RX6, "see", "()I"⟩
abbrev cX6_seenBy : ByteArray := prog_1_method_17_code
def yX6_seenBy : MethodName := ⟨RX6, "seenBy", "(I)I"⟩
abbrev cX6_odds : ByteArray := prog_1_method_18_code
def yX6_odds : MethodName := ⟨RX6, "odds", "(III)I"⟩
abbrev cX6_countOutcomes : ByteArray := prog_1_method_19_code
def yX6_countOutcomes : MethodName := ⟨RX6, "countOutcomes", "(II)I"⟩
abbrev cX6_commonDivisor : ByteArray := prog_1_method_20_code
def yX6_commonDivisor : MethodName := ⟨RX6, "commonDivisor", "(II)I"⟩
abbrev cX6_knows : ByteArray := prog_1_method_21_code
def yX6_knows : MethodName := ⟨RX6, "knows", "(I)I"⟩
abbrev cX6_joinTopics : ByteArray := prog_1_method_22_code
def yX6_joinTopics : MethodName := ⟨RX6, "joinTopics", "()J"⟩
abbrev cX6_joinGroups : ByteArray := prog_1_method_23_code
def yX6_joinGroups : MethodName := ⟨RX6, "joinGroups", "(I)V"⟩
abbrev cX6_felt : ByteArray := prog_1_method_24_code
def yX6_felt : MethodName := ⟨RX6, "felt", "(I)I"⟩
abbrev cX6_whose : ByteArray := prog_1_method_25_code
def yX6_whose : MethodName := ⟨RX6, "whose", "(I)I"⟩
abbrev cX6_tells : ByteArray := prog_1_method_26_code
def yX6_tells : MethodName := ⟨RX6, "tells", "(III)I"⟩
abbrev cX6_fits : ByteArray := prog_1_method_27_code
def yX6_fits : MethodName := ⟨RX6, "fits", "()I"⟩
abbrev cX6_forget : ByteArray := prog_1_method_28_code
def yX6_forget : MethodName := ⟨RX6, "forget", "()I"⟩
abbrev cX6_rate : ByteArray := prog_1_method_29_code
def yX6_rate : MethodName := ⟨RX6, "rate", "(II)I"⟩
abbrev cX6_rateThing : ByteArray := prog_1_method_30_code
def yX6_rateThing : MethodName := ⟨RX6, "rateThing", "(I)I"⟩
abbrev cX6_rateComb : ByteArray := prog_1_method_31_code
def yX6_rateComb : MethodName := ⟨RX6, "rateComb", "(I)I"⟩
abbrev cX6_rateRoom : ByteArray := prog_1_method_32_code
def yX6_rateRoom : MethodName := ⟨RX6, "rateRoom", "(I)I"⟩
abbrev cX6_rateCurate : ByteArray := prog_1_method_33_code
def yX6_rateCurate : MethodName := ⟨RX6, "rateCurate", "(I)I"⟩
abbrev cX6_rateBishop : ByteArray := prog_1_method_34_code
def yX6_rateBishop : MethodName := ⟨RX6, "rateBishop", "(I)I"⟩
abbrev cX6_rateTwin : ByteArray := prog_1_method_35_code
def yX6_rateTwin : MethodName := ⟨RX6, "rateTwin", "(I)I"⟩
abbrev cX6_keep : ByteArray := prog_1_method_36_code
def yX6_keep : MethodName := ⟨RX6, "keep", "(I)I"⟩
abbrev cX6_again : ByteArray := prog_1_method_37_code
def yX6_again : MethodName := ⟨RX6, "again", "(I)I"⟩
abbrev cX6_count : ByteArray := prog_1_method_38_code
def yX6_count : MethodName := ⟨RX6, "count", "(I)I"⟩
abbrev cX6_trace : ByteArray := prog_1_method_39_code
def yX6_trace : MethodName := ⟨RX6, "trace", "()J"⟩
def RX7 : String := "MindsByTenModel"
def TX7 : u_T := fun k => match k with
  | 0 => ("MindsByTenModel", "seats", "I", false)
  | 1 => ("MindsByTenModel", "place", "[I", true)
  | 2 => ("MindsByTenModel", "things", "I", false)
  | 3 => ("MindsByTenModel", "thing", "[I", true)
  | 4 => ("MindsByTenModel", "hands", "I", false)
  | 5 => ("MindsByTenModel", "ten", "I", false)
  | 6 => ("MindsByTenModel", "st", "[I", true)
  | 7 => ("MindsByTenModel", "was", "[I", true)
  | 8 => ("MindsByTenModel", "known", "I", false)
  | 9 => ("MindsByTenModel", "images", "[I", true)
  | 10 => ("MindsByTenModel", "isKept", "[Z", true)
  | 11 => ("MindsByTenModel", "feltMany", "I", false)
  | 12 => ("MindsByTenModel", "feltMarks", "[I", true)
  | 13 => ("MindsByTenModel", "toldMany", "I", false)
  | 14 => ("MindsByTenModel", "told", "[I", true)
  | 15 => ("MindsByTenModel", "trace", "J", false)
  | 16 => ("MindsByTenModel", "text", "[I", true)
  | 17 => ("MindsByTenModel", "texted", "I", false)
  | 18 => ("MindsByTenModel", "cursor", "I", false)
  | 19 => ("MindsByTenModel", "start", "I", false)
  | 20 => ("MindsByTenModel", "token", "I", false)
  | 21 => ("MindsByTenModel", "number", "I", false)
  | 22 => ("MindsByTenModel", "isWrong", "Z", false)
  | 23 => ("MindsByTenModel", "items", "I", false)
  | 24 => ("MindsByTenModel", "saidSeats", "I", false)
  | 25 => ("MindsByTenModel", "saidPlace", "[I", true)
  | 26 => ("MindsByTenModel", "saidThings", "I", false)
  | 27 => ("MindsByTenModel", "saidThing", "[I", true)
  | 28 => ("MindsByTenModel", "saidHands", "I", false)
  | 29 => ("MindsByTenModel", "saidTen", "I", false)
  | 30 => ("MindsByTenModel", "minutes", "[I", true)
  | 31 => ("MindsByTenModel", "isFound", "Z", false)
  | 32 => ("MindsByTenModel", "cases", "I", false)
  | 33 => ("MindsByTenModel", "time", "I", false)
  | 34 => ("MindsByTenModel", "latest", "I", false)
  | 35 => ("MindsByTenModel", "isAgain", "Z", false)
  | 36 => ("MindsByTenModel", "together", "[I", true)
  | _ => ("MindsByTenModel", "which", "[I", true)
def tyX7 : Nat → FieldType := fun k => match k with
  | 0 => .int
  | 1 => .array .int
  | 2 => .int
  | 3 => .array .int
  | 4 => .int
  | 5 => .int
  | 6 => .array .int
  | 7 => .array .int
  | 8 => .int
  | 9 => .array .int
  | 10 => .array .boolean
  | 11 => .int
  | 12 => .array .int
  | 13 => .int
  | 14 => .array .int
  | 15 => .long
  | 16 => .array .int
  | 17 => .int
  | 18 => .int
  | 19 => .int
  | 20 => .int
  | 21 => .int
  | 22 => .boolean
  | 23 => .int
  | 24 => .int
  | 25 => .array .int
  | 26 => .int
  | 27 => .array .int
  | 28 => .int
  | 29 => .int
  | 30 => .array .int
  | 31 => .boolean
  | 32 => .int
  | 33 => .int
  | 34 => .int
  | 35 => .boolean
  | 36 => .array .int
  | _ => .array .int
theorem nmX7 : ∀ a, a < 38 → ∀ b, b < 38 → a ≠ b → (TX7 a).2.1 ≠ (TX7 b).2.1 := by decide +kernel
theorem tyX7_ok : ∀ k, k < 38 → parseFieldDescriptor (TX7 k).2.2.1 = some (tyX7 k) := by decide +kernel
abbrev cX7_init : ByteArray := prog_9_method_1_code
def yX7_init : MethodName := ⟨RX7, "<init>", "()V"⟩
abbrev cX7_in : ByteArray := prog_9_method_3_code
def yX7_in : MethodName := ⟨RX7, "in", "(III)Z"⟩
abbrev cX7_has : ByteArray := prog_9_method_4_code
def yX7_has : MethodName := ⟨RX7, "has", "(II)Z"⟩
abbrev cX7_bits : ByteArray := prog_9_method_5_code
def yX7_bits : MethodName := ⟨RX7, "bits", "(I)I"⟩
abbrev cX7_size : ByteArray := prog_9_method_6_code
def yX7_size : MethodName := ⟨RX7, "size", "(I)I"⟩
abbrev cX7_isSeat : ByteArray := prog_9_method_7_code
def yX7_isSeat : MethodName := ⟨RX7, "isSeat", "(I)Z"⟩
abbrev cX7_isThing : ByteArray := prog_9_method_8_code
def yX7_isThing : MethodName := ⟨RX7, "isThing", "(I)Z"⟩
abbrev cX7_copy : ByteArray := prog_9_method_9_code
def yX7_copy : MethodName := ⟨RX7, "copy", "([II[II)V"⟩
abbrev cX7_type : ByteArray := prog_9_method_10_code
def yX7_type : MethodName := ⟨RX7, "type", "(I)I"⟩
abbrev cX7_clear : ByteArray := prog_9_method_11_code
def yX7_clear : MethodName := ⟨RX7, "clear", "()I"⟩
abbrev cX7_letterAt : ByteArray := prog_9_method_12_code
def yX7_letterAt : MethodName := ⟨RX7, "letterAt", "(I)I"⟩
abbrev cX7_isFigure : ByteArray := prog_9_method_13_code
def yX7_isFigure : MethodName := ⟨RX7, "isFigure", "(I)Z"⟩
abbrev cX7_next : ByteArray := prog_9_method_14_code
def yX7_next : MethodName := ⟨RX7, "next", "()V"⟩
abbrev cX7_takesNumber : ByteArray := prog_9_method_15_code
def yX7_takesNumber : MethodName := ⟨RX7, "takesNumber", "(II)I"⟩
abbrev cX7_readSeat : ByteArray := prog_9_method_16_code
def yX7_readSeat : MethodName := ⟨RX7, "readSeat", "()V"⟩
abbrev cX7_readThing : ByteArray := prog_9_method_17_code
def yX7_readThing : MethodName := ⟨RX7, "readThing", "()V"⟩
abbrev cX7_readItem : ByteArray := prog_9_method_18_code
def yX7_readItem : MethodName := ⟨RX7, "readItem", "()V"⟩
abbrev cX7_hall : ByteArray := prog_9_method_19_code
def yX7_hall : MethodName := ⟨RX7, "hall", "()I"⟩
abbrev cX7_settles : ByteArray := prog_9_method_20_code
def yX7_settles : MethodName := ⟨RX7, "settles", "()V"⟩
abbrev cX7_way : ByteArray := prog_9_method_21_code
def yX7_way : MethodName := ⟨RX7, "way", "(II)I"⟩
abbrev cX7_inMind : ByteArray := prog_9_method_22_code
def yX7_inMind : MethodName := ⟨RX7, "inMind", "(I)I"⟩
abbrev cX7_strays : ByteArray := prog_9_method_23_code
def yX7_strays : MethodName := ⟨RX7, "strays", "()I"⟩
abbrev cX7_seat : ByteArray := prog_9_method_24_code
def yX7_seat : MethodName := ⟨RX7, "seat", "(II)I"⟩
abbrev cX7_orNone : ByteArray := prog_9_method_25_code
def yX7_orNone : MethodName := ⟨RX7, "orNone", "(I)I"⟩
abbrev cX7_thing : ByteArray := prog_9_method_26_code
def yX7_thing : MethodName := ⟨RX7, "thing", "(II)I"⟩
abbrev cX7_now : ByteArray := prog_9_method_27_code
def yX7_now : MethodName := ⟨RX7, "now", "(I)I"⟩
abbrev cX7_remembers : ByteArray := prog_9_method_28_code
def yX7_remembers : MethodName := ⟨RX7, "remembers", "()V"⟩
abbrev cX7_goes : ByteArray := prog_9_method_29_code
def yX7_goes : MethodName := ⟨RX7, "goes", "(I)I"⟩
abbrev cX7_takes : ByteArray := prog_9_method_30_code
def yX7_takes : MethodName := ⟨RX7, "takes", "(I)I"⟩
abbrev cX7_leaves : ByteArray := prog_9_method_31_code
def yX7_leaves : MethodName := ⟨RX7, "leaves", "(I)I"⟩
abbrev cX7_encores : ByteArray := prog_9_method_32_code
def yX7_encores : MethodName := ⟨RX7, "encores", "(I)I"⟩
abbrev cX7_undo : ByteArray := prog_9_method_33_code
def yX7_undo : MethodName := ⟨RX7, "undo", "()I"⟩
abbrev cX7_fives : ByteArray := prog_9_method_34_code
def yX7_fives : MethodName := ⟨RX7, "fives", "(I)I"⟩
abbrev cX7_whereIn : ByteArray := prog_9_method_35_code
def yX7_whereIn : MethodName := ⟨RX7, "whereIn", "(II)I"⟩
abbrev cX7_comesBy : ByteArray := prog_9_method_36_code
def yX7_comesBy : MethodName := ⟨RX7, "comesBy", "(II)V"⟩
abbrev cX7_handsOf : ByteArray := prog_9_method_37_code
def yX7_handsOf : MethodName := ⟨RX7, "handsOf", "(I)I"⟩
abbrev cX7_goesBack : ByteArray := prog_9_method_38_code
def yX7_goesBack : MethodName := ⟨RX7, "goesBack", "(I)V"⟩
abbrev cX7_isBack : ByteArray := prog_9_method_39_code
def yX7_isBack : MethodName := ⟨RX7, "isBack", "(I)Z"⟩
abbrev cX7_finds : ByteArray := prog_9_method_40_code
def yX7_finds : MethodName := ⟨RX7, "finds", "()V"⟩
abbrev cX7_nowAs : ByteArray := prog_9_method_41_code
def yX7_nowAs : MethodName := ⟨RX7, "nowAs", "()I"⟩
abbrev cX7_leastWith : ByteArray := prog_9_method_42_code
def yX7_leastWith : MethodName := ⟨RX7, "leastWith", "(I)I"⟩
abbrev cX7_back : ByteArray := prog_9_method_43_code
def yX7_back : MethodName := ⟨RX7, "back", "(I)I"⟩
abbrev cX7_left : ByteArray := prog_9_method_44_code
def yX7_left : MethodName := ⟨RX7, "left", "()I"⟩
abbrev cX7_see : ByteArray := prog_9_method_45_code
def yX7_see : MethodName := ⟨RX7, "see", "()I"⟩
abbrev cX7_seenBy : ByteArray := prog_9_method_46_code
def yX7_seenBy : MethodName := ⟨RX7, "seenBy", "(I)I"⟩
abbrev cX7_lowest : ByteArray := prog_9_method_47_code
def yX7_lowest : MethodName := ⟨RX7, "lowest", "(III)I"⟩
abbrev cX7_odds : ByteArray := prog_9_method_48_code
def yX7_odds : MethodName := ⟨RX7, "odds", "(III)I"⟩
abbrev cX7_knows : ByteArray := prog_9_method_49_code
def yX7_knows : MethodName := ⟨RX7, "knows", "(I)I"⟩
abbrev cX7_felt : ByteArray := prog_9_method_50_code
def yX7_felt : MethodName := ⟨RX7, "felt", "(I)I"⟩
abbrev cX7_isWay : ByteArray := prog_9_method_51_code
def yX7_isWay : MethodName := ⟨RX7, "isWay", "(I)Z"⟩
abbrev cX7_whose : ByteArray := prog_9_method_52_code
def yX7_whose : MethodName := ⟨RX7, "whose", "(I)I"⟩
abbrev cX7_tells : ByteArray := prog_9_method_53_code
def yX7_tells : MethodName := ⟨RX7, "tells", "(III)I"⟩
abbrev cX7_nearestTo : ByteArray := prog_9_method_54_code
def yX7_nearestTo : MethodName := ⟨RX7, "nearestTo", "(I)I"⟩
abbrev cX7_fits : ByteArray := prog_9_method_55_code
def yX7_fits : MethodName := ⟨RX7, "fits", "()I"⟩
abbrev cX7_forget : ByteArray := prog_9_method_56_code
def yX7_forget : MethodName := ⟨RX7, "forget", "()I"⟩
abbrev cX7_rate : ByteArray := prog_9_method_57_code
def yX7_rate : MethodName := ⟨RX7, "rate", "(II)I"⟩
abbrev cX7_keep : ByteArray := prog_9_method_58_code
def yX7_keep : MethodName := ⟨RX7, "keep", "(I)I"⟩
abbrev cX7_again : ByteArray := prog_9_method_59_code
def yX7_again : MethodName := ⟨RX7, "again", "(I)I"⟩
abbrev cX7_count : ByteArray := prog_9_method_60_code
def yX7_count : MethodName := ⟨RX7, "count", "(I)I"⟩
abbrev cX7_trace : ByteArray := prog_9_method_61_code
def yX7_trace : MethodName := ⟨RX7, "trace", "()J"⟩
def RJ6 : String := "java/lang/Integer"
def TJ6 : u_T := fun k => match k with
  | _ => ("", "", "", false)
def tyJ6 : Nat → FieldType := fun k => match k with
  | _ => .int
theorem nmJ6 : ∀ a, a < 0 → ∀ b, b < 0 → a ≠ b → (TJ6 a).2.1 ≠ (TJ6 b).2.1 := by decide +kernel
theorem tyJ6_ok : ∀ k, k < 0 → parseFieldDescriptor (TJ6 k).2.2.1 = some (tyJ6 k) := by decide +kernel
abbrev cJ6_bitCount_0f7a4 : ByteArray := prog_10_method_49_code
def yJ6_bitCount_0f7a4 : MethodName := ⟨RJ6, "bitCount", "(I)I"⟩
def RJ13 : String := "java/lang/Long"
def TJ13 : u_T := fun k => match k with
  | _ => ("", "", "", false)
def tyJ13 : Nat → FieldType := fun k => match k with
  | _ => .int
theorem nmJ13 : ∀ a, a < 0 → ∀ b, b < 0 → a ≠ b → (TJ13 a).2.1 ≠ (TJ13 b).2.1 := by decide +kernel
theorem tyJ13_ok : ∀ k, k < 0 → parseFieldDescriptor (TJ13 k).2.2.1 = some (tyJ13 k) := by decide +kernel
abbrev cJ13_bitCount_95d88 : ByteArray := prog_11_method_50_code
def yJ13_bitCount_95d88 : MethodName := ⟨RJ13, "bitCount", "(J)I"⟩
def RJ9 : String := "java/lang/Math"
def TJ9 : u_T := fun k => match k with
  | _ => ("", "", "", false)
def tyJ9 : Nat → FieldType := fun k => match k with
  | _ => .int
theorem nmJ9 : ∀ a, a < 0 → ∀ b, b < 0 → a ≠ b → (TJ9 a).2.1 ≠ (TJ9 b).2.1 := by decide +kernel
theorem tyJ9_ok : ∀ k, k < 0 → parseFieldDescriptor (TJ9 k).2.2.1 = some (tyJ9 k) := by decide +kernel
abbrev cJ9_abs_0f7a4 : ByteArray := prog_12_method_59_code
def yJ9_abs_0f7a4 : MethodName := ⟨RJ9, "abs", "(I)I"⟩
abbrev cJ9_max_7cf53 : ByteArray := prog_12_method_65_code
def yJ9_max_7cf53 : MethodName := ⟨RJ9, "max", "(II)I"⟩
abbrev cJ9_min_7cf53 : ByteArray := prog_12_method_69_code
def yJ9_min_7cf53 : MethodName := ⟨RJ9, "min", "(II)I"⟩
def RJ10 : String := "java/lang/System"
def TJ10 : u_T := fun k => match k with
  | _ => ("", "", "", false)
def tyJ10 : Nat → FieldType := fun k => match k with
  | _ => .int
theorem nmJ10 : ∀ a, a < 0 → ∀ b, b < 0 → a ≠ b → (TJ10 a).2.1 ≠ (TJ10 b).2.1 := by decide +kernel
theorem tyJ10_ok : ∀ k, k < 0 → parseFieldDescriptor (TJ10 k).2.2.1 = some (tyJ10 k) := by decide +kernel
def RJ7 : String := "java/util/Arrays"
def TJ7 : u_T := fun k => match k with
  | _ => ("", "", "", false)
def tyJ7 : Nat → FieldType := fun k => match k with
  | _ => .int
theorem nmJ7 : ∀ a, a < 0 → ∀ b, b < 0 → a ≠ b → (TJ7 a).2.1 ≠ (TJ7 b).2.1 := by decide +kernel
theorem tyJ7_ok : ∀ k, k < 0 → parseFieldDescriptor (TJ7 k).2.2.1 = some (tyJ7 k) := by decide +kernel
abbrev cJ7_fill_53178 : ByteArray := prog_14_method_103_code
def yJ7_fill_53178 : MethodName := ⟨RJ7, "fill", "([II)V"⟩
def RL : String := "MindsByTenLaw"
abbrev cL_law : ByteArray := code
abbrev vwCl : List vw_C := [(RX0, TX0, 6), (RX1, TX1, 12), (RX2, TX2, 3), (RX3, TX3, 4), (RX4, TX4, 7), (RX5, TX5, 7), (RX6, TX6, 12), (RX7, TX7, 38)]
def am_cns : List String := [RX0, RX1, RX2, RX3, RX4, RX5, RX6, RX7, RJ6, RJ13, RJ9, RJ7, RL]
def am_cn (o : Nat) : String := am_cns.getD o ""
/-- the methods: name, code, locals, answer, class, parameters, how deep it calls, the locals of its calls -/
def am_ms : List (MethodName × ByteArray × Nat × Option FieldType × Nat × Nat × Nat × Nat) := [(yX0_init, cX0_init, 1, (none : Option FieldType), 0, 0, 1, 40),
  (yX0_drop, cX0_drop, 1, (none : Option FieldType), 0, 0, 0, 0),
  (yX0_addFelt, cX0_addFelt, 2, (some .boolean : Option FieldType), 0, 1, 0, 0),
  (yX0_addTold, cX0_addTold, 4, (some .boolean : Option FieldType), 0, 3, 0, 0),
  (yX0_countWays, cX0_countWays, 4, (some .int : Option FieldType), 0, 1, 2, 46),
  (yX0_candidates, cX0_candidates, 5, (some .int : Option FieldType), 0, 2, 2, 46),
  (yX0_waysToTry, cX0_waysToTry, 2, (some .int : Option FieldType), 0, 1, 0, 0),
  (yX0_thingIn, cX0_thingIn, 2, (some .int : Option FieldType), 0, 2, 0, 0),
  (yX0_isWay, cX0_isWay, 6, (some .boolean : Option FieldType), 0, 2, 1, 21),
  (yX0_lawsThatFit, cX0_lawsThatFit, 4, (some .int : Option FieldType), 0, 1, 5, 131),
  (yX0_fitsAll, cX0_fitsAll, 4, (some .boolean : Option FieldType), 0, 2, 4, 108),
  (yX0_seatByLaw, cX0_seatByLaw, 4, (some .int : Option FieldType), 0, 4, 3, 85),
  (yX1_init, cX1_init, 1, (none : Option FieldType), 1, 0, 1, 40),
  (yX1_empty, cX1_empty, 1, (none : Option FieldType), 1, 0, 0, 0),
  (yX1_hasSeat, cX1_hasSeat, 2, (some .boolean : Option FieldType), 1, 1, 0, 0),
  (yX1_hasThing, cX1_hasThing, 2, (some .boolean : Option FieldType), 1, 1, 0, 0),
  (yX1_way, cX1_way, 3, (some .int : Option FieldType), 1, 2, 1, 40),
  (yX1_nearestTo, cX1_nearestTo, 4, (some .int : Option FieldType), 1, 1, 2, 62),
  (yX2_init, cX2_init, 2, (none : Option FieldType), 2, 0, 2, 60),
  (yX2_push, cX2_push, 2, (none : Option FieldType), 2, 1, 2, 61),
  (yX2_popInto, cX2_popInto, 2, (some .boolean : Option FieldType), 2, 1, 2, 61),
  (yX3_init, cX3_init, 1, (none : Option FieldType), 3, 0, 1, 40),
  (yX3_begin, cX3_begin, 3, (none : Option FieldType), 3, 1, 0, 0),
  (yX3_become, cX3_become, 2, (none : Option FieldType), 3, 1, 1, 40),
  (yX3_hasRead, cX3_hasRead, 2, (some .boolean : Option FieldType), 3, 1, 0, 0),
  (yX3_thingsAt, cX3_thingsAt, 5, (some .int : Option FieldType), 3, 2, 0, 0),
  (yX3_held, cX3_held, 2, (some .int : Option FieldType), 3, 1, 1, 24),
  (yX3_strays, cX3_strays, 4, (some .int : Option FieldType), 3, 1, 0, 0),
  (yX3_mayTake, cX3_mayTake, 3, (some .boolean : Option FieldType), 3, 2, 2, 45),
  (yX3_mayLeave, cX3_mayLeave, 2, (some .boolean : Option FieldType), 3, 1, 0, 0),
  (yX4_init, cX4_init, 1, (none : Option FieldType), 4, 0, 1, 40),
  (yX4_append, cX4_append, 2, (some .boolean : Option FieldType), 4, 1, 0, 0),
  (yX4_tell, cX4_tell, 4, (some .int : Option FieldType), 4, 1, 5, 127),
  (yX4_tellSeat, cX4_tellSeat, 3, (none : Option FieldType), 4, 1, 4, 105),
  (yX4_tellThing, cX4_tellThing, 3, (none : Option FieldType), 4, 1, 4, 105),
  (yX4_tellHands, cX4_tellHands, 2, (none : Option FieldType), 4, 1, 4, 105),
  (yX4_tellTen, cX4_tellTen, 2, (none : Option FieldType), 4, 1, 4, 105),
  (yX4_number, cX4_number, 3, (some .int : Option FieldType), 4, 2, 3, 83),
  (yX4_refuse, cX4_refuse, 1, (none : Option FieldType), 4, 0, 0, 0),
  (yX4_step, cX4_step, 2, (none : Option FieldType), 4, 0, 2, 62),
  (yX4_stepNumber, cX4_stepNumber, 3, (none : Option FieldType), 4, 0, 1, 40),
  (yX4_isDigit, cX4_isDigit, 1, (some .boolean : Option FieldType), 4, 1, 0, 0),
  (yX5_init, cX5_init, 1, (none : Option FieldType), 5, 0, 1, 40),
  (yX5_drop, cX5_drop, 1, (none : Option FieldType), 5, 0, 0, 0),
  (yX5_fewest, cX5_fewest, 4, (some .int : Option FieldType), 5, 3, 4, 113),
  (yX5_firstStep, cX5_firstStep, 7, (some .int : Option FieldType), 5, 2, 5, 136),
  (yX5_stateOf, cX5_stateOf, 4, (some .int : Option FieldType), 5, 2, 2, 43),
  (yX5_digitOf, cX5_digitOf, 3, (some .int : Option FieldType), 5, 3, 1, 21),
  (yX5_minutes, cX5_minutes, 3, (some .int : Option FieldType), 5, 2, 0, 0),
  (yX5_setMinutes, cX5_setMinutes, 4, (none : Option FieldType), 5, 3, 0, 0),
  (yX5_search, cX5_search, 6, (none : Option FieldType), 5, 2, 3, 88),
  (yX5_offerEnds, cX5_offerEnds, 5, (none : Option FieldType), 5, 1, 2, 47),
  (yX5_weigh, cX5_weigh, 7, (none : Option FieldType), 5, 3, 2, 62),
  (yX5_readDigits, cX5_readDigits, 5, (some .int : Option FieldType), 5, 1, 0, 0),
  (yX5_offer, cX5_offer, 4, (none : Option FieldType), 5, 2, 1, 24),
  (yX5_chain, cX5_chain, 4, (none : Option FieldType), 5, 2, 0, 0),
  (yX5_unchain, cX5_unchain, 5, (none : Option FieldType), 5, 2, 0, 0),
  (yX6_init, cX6_init, 2, (none : Option FieldType), 6, 0, 3, 81),
  (yX6_type, cX6_type, 2, (some .int : Option FieldType), 6, 1, 1, 21),
  (yX6_clear, cX6_clear, 2, (some .int : Option FieldType), 6, 0, 0, 0),
  (yX6_hall, cX6_hall, 3, (some .int : Option FieldType), 6, 0, 6, 150),
  (yX6_beginAnew, cX6_beginAnew, 2, (none : Option FieldType), 6, 0, 1, 22),
  (yX6_seat, cX6_seat, 3, (some .int : Option FieldType), 6, 2, 2, 62),
  (yX6_thing, cX6_thing, 3, (some .int : Option FieldType), 6, 2, 1, 21),
  (yX6_now, cX6_now, 2, (some .int : Option FieldType), 6, 1, 1, 24),
  (yX6_goes, cX6_goes, 3, (some .int : Option FieldType), 6, 1, 3, 82),
  (yX6_takes, cX6_takes, 2, (some .int : Option FieldType), 6, 1, 3, 82),
  (yX6_leaves, cX6_leaves, 2, (some .int : Option FieldType), 6, 1, 3, 82),
  (yX6_encores, cX6_encores, 2, (some .int : Option FieldType), 6, 1, 3, 82),
  (yX6_undo, cX6_undo, 1, (some .int : Option FieldType), 6, 0, 3, 82),
  (yX6_back, cX6_back, 2, (some .int : Option FieldType), 6, 1, 6, 162),
  (yX6_left, cX6_left, 1, (some .int : Option FieldType), 6, 0, 5, 136),
  (yX6_see, cX6_see, 2, (some .int : Option FieldType), 6, 0, 5, 136),
  (yX6_seenBy, cX6_seenBy, 2, (some .int : Option FieldType), 6, 1, 5, 136),
  (yX6_odds, cX6_odds, 8, (some .int : Option FieldType), 6, 3, 2, 48),
  (yX6_countOutcomes, cX6_countOutcomes, 6, (some .int : Option FieldType), 6, 2, 1, 23),
  (yX6_commonDivisor, cX6_commonDivisor, 4, (some .int : Option FieldType), 6, 2, 0, 0),
  (yX6_knows, cX6_knows, 8, (some .int : Option FieldType), 6, 1, 2, 65),
  (yX6_joinTopics, cX6_joinTopics, 6, (some .long : Option FieldType), 6, 0, 1, 40),
  (yX6_joinGroups, cX6_joinGroups, 3, (none : Option FieldType), 6, 1, 0, 0),
  (yX6_felt, cX6_felt, 2, (some .int : Option FieldType), 6, 1, 1, 21),
  (yX6_whose, cX6_whose, 4, (some .int : Option FieldType), 6, 1, 3, 70),
  (yX6_tells, cX6_tells, 4, (some .int : Option FieldType), 6, 3, 1, 23),
  (yX6_fits, cX6_fits, 1, (some .int : Option FieldType), 6, 0, 6, 154),
  (yX6_forget, cX6_forget, 2, (some .int : Option FieldType), 6, 0, 1, 20),
  (yX6_rate, cX6_rate, 3, (some .int : Option FieldType), 6, 2, 4, 105),
  (yX6_rateThing, cX6_rateThing, 2, (some .int : Option FieldType), 6, 1, 1, 20),
  (yX6_rateComb, cX6_rateComb, 3, (some .int : Option FieldType), 6, 1, 2, 62),
  (yX6_rateRoom, cX6_rateRoom, 2, (some .int : Option FieldType), 6, 1, 2, 41),
  (yX6_rateCurate, cX6_rateCurate, 2, (some .int : Option FieldType), 6, 1, 3, 84),
  (yX6_rateBishop, cX6_rateBishop, 2, (some .int : Option FieldType), 6, 1, 3, 62),
  (yX6_rateTwin, cX6_rateTwin, 2, (some .int : Option FieldType), 6, 1, 2, 41),
  (yX6_keep, cX6_keep, 2, (some .int : Option FieldType), 6, 1, 2, 61),
  (yX6_again, cX6_again, 2, (some .int : Option FieldType), 6, 1, 2, 61),
  (yX6_count, cX6_count, 2, (some .int : Option FieldType), 6, 1, 0, 0),
  (yX6_trace, cX6_trace, 1, (some .long : Option FieldType), 6, 0, 0, 0),
  (yX7_init, cX7_init, 1, (none : Option FieldType), 7, 0, 1, 40),
  (yX7_in, cX7_in, 3, (some .boolean : Option FieldType), 7, 3, 0, 0),
  (yX7_has, cX7_has, 2, (some .boolean : Option FieldType), 7, 2, 0, 0),
  (yX7_bits, cX7_bits, 3, (some .int : Option FieldType), 7, 1, 0, 0),
  (yX7_size, cX7_size, 1, (some .int : Option FieldType), 7, 1, 0, 0),
  (yX7_isSeat, cX7_isSeat, 2, (some .boolean : Option FieldType), 7, 1, 1, 22),
  (yX7_isThing, cX7_isThing, 2, (some .boolean : Option FieldType), 7, 1, 1, 22),
  (yX7_copy, cX7_copy, 5, (none : Option FieldType), 7, 4, 0, 0),
  (yX7_type, cX7_type, 2, (some .int : Option FieldType), 7, 1, 1, 22),
  (yX7_clear, cX7_clear, 2, (some .int : Option FieldType), 7, 0, 0, 0),
  (yX7_letterAt, cX7_letterAt, 2, (some .int : Option FieldType), 7, 1, 0, 0),
  (yX7_isFigure, cX7_isFigure, 1, (some .boolean : Option FieldType), 7, 1, 1, 22),
  (yX7_next, cX7_next, 2, (none : Option FieldType), 7, 0, 2, 42),
  (yX7_takesNumber, cX7_takesNumber, 5, (some .int : Option FieldType), 7, 2, 3, 63),
  (yX7_readSeat, cX7_readSeat, 1, (none : Option FieldType), 7, 0, 4, 87),
  (yX7_readThing, cX7_readThing, 2, (none : Option FieldType), 7, 0, 4, 87),
  (yX7_readItem, cX7_readItem, 3, (none : Option FieldType), 7, 0, 5, 108),
  (yX7_hall, cX7_hall, 1, (some .int : Option FieldType), 7, 0, 6, 130),
  (yX7_settles, cX7_settles, 2, (none : Option FieldType), 7, 0, 0, 0),
  (yX7_way, cX7_way, 5, (some .int : Option FieldType), 7, 2, 1, 20),
  (yX7_inMind, cX7_inMind, 4, (some .int : Option FieldType), 7, 1, 0, 0),
  (yX7_strays, cX7_strays, 3, (some .int : Option FieldType), 7, 0, 0, 0),
  (yX7_seat, cX7_seat, 3, (some .int : Option FieldType), 7, 2, 2, 44),
  (yX7_orNone, cX7_orNone, 1, (some .int : Option FieldType), 7, 1, 0, 0),
  (yX7_thing, cX7_thing, 3, (some .int : Option FieldType), 7, 2, 2, 43),
  (yX7_now, cX7_now, 2, (some .int : Option FieldType), 7, 1, 1, 23),
  (yX7_remembers, cX7_remembers, 2, (none : Option FieldType), 7, 0, 1, 24),
  (yX7_goes, cX7_goes, 3, (some .int : Option FieldType), 7, 1, 2, 45),
  (yX7_takes, cX7_takes, 2, (some .int : Option FieldType), 7, 1, 2, 45),
  (yX7_leaves, cX7_leaves, 2, (some .int : Option FieldType), 7, 1, 2, 45),
  (yX7_encores, cX7_encores, 2, (some .int : Option FieldType), 7, 1, 2, 45),
  (yX7_undo, cX7_undo, 1, (some .int : Option FieldType), 7, 0, 1, 24),
  (yX7_fives, cX7_fives, 3, (some .int : Option FieldType), 7, 1, 0, 0),
  (yX7_whereIn, cX7_whereIn, 2, (some .int : Option FieldType), 7, 2, 1, 22),
  (yX7_comesBy, cX7_comesBy, 3, (none : Option FieldType), 7, 2, 0, 0),
  (yX7_handsOf, cX7_handsOf, 4, (some .int : Option FieldType), 7, 1, 2, 43),
  (yX7_goesBack, cX7_goesBack, 10, (none : Option FieldType), 7, 1, 3, 66),
  (yX7_isBack, cX7_isBack, 4, (some .boolean : Option FieldType), 7, 1, 2, 43),
  (yX7_finds, cX7_finds, 3, (none : Option FieldType), 7, 0, 4, 95),
  (yX7_nowAs, cX7_nowAs, 3, (some .int : Option FieldType), 7, 0, 1, 22),
  (yX7_leastWith, cX7_leastWith, 5, (some .int : Option FieldType), 7, 1, 5, 117),
  (yX7_back, cX7_back, 6, (some .int : Option FieldType), 7, 1, 5, 117),
  (yX7_left, cX7_left, 1, (some .int : Option FieldType), 7, 0, 6, 141),
  (yX7_see, cX7_see, 3, (some .int : Option FieldType), 7, 0, 6, 141),
  (yX7_seenBy, cX7_seenBy, 2, (some .int : Option FieldType), 7, 1, 6, 141),
  (yX7_lowest, cX7_lowest, 6, (some .int : Option FieldType), 7, 3, 0, 0),
  (yX7_odds, cX7_odds, 10, (some .int : Option FieldType), 7, 3, 1, 25),
  (yX7_knows, cX7_knows, 6, (some .int : Option FieldType), 7, 1, 1, 22),
  (yX7_felt, cX7_felt, 2, (some .int : Option FieldType), 7, 1, 1, 22),
  (yX7_isWay, cX7_isWay, 7, (some .boolean : Option FieldType), 7, 1, 1, 22),
  (yX7_whose, cX7_whose, 6, (some .int : Option FieldType), 7, 1, 2, 48),
  (yX7_tells, cX7_tells, 4, (some .int : Option FieldType), 7, 3, 2, 43),
  (yX7_nearestTo, cX7_nearestTo, 5, (some .int : Option FieldType), 7, 1, 2, 44),
  (yX7_fits, cX7_fits, 5, (some .int : Option FieldType), 7, 0, 3, 68),
  (yX7_forget, cX7_forget, 2, (some .int : Option FieldType), 7, 0, 0, 0),
  (yX7_rate, cX7_rate, 7, (some .int : Option FieldType), 7, 2, 2, 44),
  (yX7_keep, cX7_keep, 2, (some .int : Option FieldType), 7, 1, 1, 24),
  (yX7_again, cX7_again, 2, (some .int : Option FieldType), 7, 1, 1, 24),
  (yX7_count, cX7_count, 2, (some .int : Option FieldType), 7, 1, 0, 0),
  (yX7_trace, cX7_trace, 1, (some .long : Option FieldType), 7, 0, 0, 0),
  (yJ6_bitCount_0f7a4, cJ6_bitCount_0f7a4, 1, (some .int : Option FieldType), 8, 1, 0, 0),
  (yJ13_bitCount_95d88, cJ13_bitCount_95d88, 2, (some .int : Option FieldType), 9, 1, 0, 0),
  (yJ7_fill_53178, cJ7_fill_53178, 4, (none : Option FieldType), 11, 2, 0, 0),
  (x, cL_law, 4, (some .boolean : Option FieldType), 12, 1, 7, 183)]
def am_mq (i : Nat) : MethodName × ByteArray × Nat × Option FieldType × Nat × Nat × Nat × Nat := am_ms.getD i (x, code, 0, none, 0, 0, 0, 0)
def am_y (i : Nat) : MethodName := (am_mq i).1
def am_mb (i : Nat) : ByteArray := (am_mq i).2.1
def am_mL (i : Nat) : Nat := (am_mq i).2.2.1
def am_ret (i : Nat) : Option FieldType := (am_mq i).2.2.2.1
def am_own (i : Nat) : Nat := (am_mq i).2.2.2.2.1
def am_np (i : Nat) : Nat := (am_mq i).2.2.2.2.2.1
def am_rk (i : Nat) : Nat := (am_mq i).2.2.2.2.2.2.1
def am_lr (i : Nat) : Nat := (am_mq i).2.2.2.2.2.2.2
/-- calls: pool number * 16 + class, kind (0 virtual, 1 static, 2 constructor, 3 a nest mate's constructor, 8 Object.<init>, 9 arraycopy), method -/
def am_MT : List (Nat × Nat × Nat) := [(48, 8, 0), (496, 0, 6), (560, 0, 8), (624, 1, 7), (768, 0, 15), (880, 1, 156), (976, 0, 10), (1024, 1, 11), (1136, 0, 17), (49, 8, 0), (481, 0, 13), (849, 10, 0), (945, 0, 16), (50, 8, 0), (386, 3, 21), (402, 0, 23), (466, 12, 0), (51, 8, 0), (483, 9, 0), (627, 0, 25), (691, 1, 156), (787, 0, 26), (52, 8, 0), (308, 0, 13), (484, 0, 39), (580, 0, 33), (644, 0, 34), (692, 0, 35), (740, 0, 36), (788, 0, 38), (948, 0, 37), (1604, 1, 41), (1668, 0, 40), (1716, 12, 0), (85, 8, 0), (565, 0, 50), (629, 1, 46), (693, 0, 48), (757, 0, 44), (981, 0, 16), (1077, 1, 47), (1173, 0, 28), (1237, 0, 29), (1301, 0, 15), (1349, 0, 24), (1509, 1, 158), (1605, 0, 49), (1669, 0, 51), (1733, 0, 56), (1797, 0, 52), (1861, 1, 156), (2005, 0, 54), (2053, 0, 53), (2149, 0, 55), (54, 8, 0), (182, 3, 30), (294, 2, 12), (454, 3, 21), (566, 2, 18), (806, 3, 0), (918, 3, 42), (1174, 0, 31), (1302, 0, 32), (1414, 0, 61), (1462, 0, 22), (1574, 0, 1), (1622, 0, 43), (1638, 0, 14), (1798, 0, 25), (1910, 0, 16), (1974, 0, 15), (2262, 0, 24), (2358, 0, 27), (2454, 0, 19), (2518, 0, 28), (2582, 0, 26), (2630, 0, 29), (2678, 0, 20), (2742, 0, 44), (2806, 0, 45), (2966, 1, 156), (3062, 0, 75), (3110, 1, 76), (3158, 1, 158), (3254, 0, 78), (3318, 11, 0), (3398, 1, 157), (3478, 12, 0), (3526, 0, 79), (3590, 0, 2), (3686, 0, 4), (3734, 0, 5), (3798, 0, 3), (3910, 0, 9), (3974, 0, 86), (4022, 0, 87), (4070, 0, 88), (4118, 0, 89), (4166, 0, 90), (4214, 0, 91), (4422, 0, 23), (23, 8, 0), (1031, 1, 97), (1239, 0, 106), (1447, 1, 107), (1575, 0, 108), (1671, 0, 109), (1879, 0, 110), (1927, 0, 111), (2023, 0, 112), (2071, 0, 114), (2311, 1, 100), (2359, 0, 101), (2407, 0, 116), (2455, 0, 115), (2503, 0, 102), (2551, 1, 119), (2599, 0, 117), (2663, 1, 103), (2727, 0, 122), (2775, 1, 99), (2823, 1, 128), (3015, 1, 129), (3063, 0, 130), (3127, 0, 131), (3223, 1, 98), (3287, 0, 133), (3351, 0, 132), (3415, 0, 134), (3463, 0, 135), (3511, 0, 136), (3559, 1, 141), (3623, 0, 145), (3671, 0, 148), (156, 2, 57), (204, 2, 96), (220, 0, 58), (284, 0, 104), (300, 0, 59), (364, 0, 105), (380, 0, 60), (428, 0, 113), (444, 0, 62), (508, 0, 118), (524, 0, 63), (572, 0, 120), (588, 0, 64), (636, 0, 121), (652, 0, 65), (700, 0, 123), (716, 0, 66), (764, 0, 124), (780, 0, 67), (828, 0, 125), (844, 0, 68), (892, 0, 126), (908, 0, 69), (956, 0, 127), (972, 0, 70), (1020, 0, 137), (1036, 0, 71), (1084, 0, 138), (1100, 0, 72), (1148, 0, 139), (1164, 0, 73), (1212, 0, 140), (1228, 0, 74), (1292, 0, 142), (1308, 0, 77), (1356, 0, 143), (1372, 0, 80), (1420, 0, 144), (1436, 0, 81), (1484, 0, 146), (1500, 0, 82), (1548, 0, 147), (1564, 0, 83), (1612, 0, 149), (1628, 0, 84), (1676, 0, 150), (1692, 0, 85), (1740, 0, 151), (1756, 0, 92), (1804, 0, 152), (1820, 0, 93), (1868, 0, 153), (1884, 0, 94), (1932, 0, 154), (1948, 0, 95), (2012, 0, 155)]
/-- fields: pool number * 16 + class, the class, the field -/
def am_FT : List (Nat × Nat × Nat) := [(144, 0, 0), (240, 0, 1), (288, 0, 2), (352, 0, 3), (400, 0, 4), (448, 0, 5), (688, 1, 1), (832, 1, 9), (1088, 1, 8), (1184, 1, 0), (145, 1, 6), (241, 1, 7), (289, 1, 8), (337, 1, 9), (385, 1, 10), (433, 1, 11), (529, 1, 0), (593, 1, 1), (641, 1, 2), (689, 1, 3), (737, 1, 4), (801, 1, 5), (178, 2, 0), (274, 2, 1), (338, 2, 2), (147, 3, 0), (243, 3, 1), (291, 3, 2), (339, 3, 3), (403, 1, 8), (579, 1, 1), (851, 1, 2), (180, 4, 0), (244, 4, 1), (388, 4, 2), (436, 4, 3), (532, 4, 5), (836, 1, 0), (884, 1, 6), (1012, 1, 7), (1060, 1, 1), (1108, 1, 8), (1156, 1, 9), (1204, 1, 10), (1252, 1, 11), (1300, 1, 4), (1364, 1, 2), (1412, 1, 5), (1460, 1, 3), (1508, 4, 6), (1556, 4, 4), (181, 5, 0), (245, 5, 1), (309, 5, 2), (357, 5, 3), (405, 5, 4), (453, 5, 5), (517, 5, 6), (821, 1, 0), (901, 3, 1), (1029, 1, 1), (1397, 3, 3), (1957, 1, 8), (2101, 1, 2), (198, 6, 0), (310, 6, 1), (374, 6, 2), (470, 6, 3), (582, 6, 4), (646, 6, 5), (710, 6, 6), (822, 6, 7), (934, 6, 8), (998, 6, 9), (1062, 6, 10), (1110, 6, 11), (1238, 4, 1), (1366, 4, 2), (1526, 2, 1), (1702, 1, 6), (1750, 1, 7), (1862, 3, 1), (2022, 1, 8), (2070, 1, 9), (2118, 1, 10), (2166, 1, 11), (2214, 3, 3), (2310, 3, 0), (2406, 3, 2), (2870, 1, 3), (2918, 1, 1), (3638, 0, 0), (3862, 0, 1), (4470, 1, 0), (4518, 1, 2), (119, 7, 1), (215, 7, 3), (263, 7, 4), (327, 7, 5), (375, 7, 6), (423, 7, 7), (471, 7, 9), (519, 7, 10), (583, 7, 12), (631, 7, 14), (679, 7, 16), (727, 7, 25), (775, 7, 27), (839, 7, 30), (887, 7, 36), (935, 7, 37), (983, 7, 0), (1095, 7, 2), (1143, 7, 17), (1191, 7, 18), (1303, 7, 19), (1351, 7, 21), (1399, 7, 20), (1511, 7, 22), (1623, 7, 24), (1735, 7, 26), (1783, 7, 28), (1831, 7, 29), (1975, 7, 23), (2119, 7, 31), (2167, 7, 8), (2215, 7, 11), (2263, 7, 13), (2871, 7, 34), (2919, 7, 35), (2967, 7, 33), (3175, 7, 32), (3735, 7, 15)]
def am_CT : List (Nat × Nat) := [(124, 6), (146, 3), (150, 4), (172, 7), (262, 1), (422, 3), (534, 2), (774, 0), (886, 5)]
def am_KT : List (Nat × Int32) := [(823, 50000), (3335, 100000), (3719, -1000000), (3958, -1000000), (4248, 1431655765), (4264, 858993459), (4280, 252645135)]
def am_LT : List (Nat × Int64) := [(1445, 4095), (1477, -1), (3799, 11), (3831, 101), (3863, 1011), (3895, 10101), (3927, 100001), (4262, 10), (4294, 100), (4326, 1000), (4358, 10000), (4390, 100000), (5033, 6148914691236517205), (5065, 3689348814741910323), (5097, 1085102592571150095)]
def am_UN : Nat × Nat := (5, 70)
def am_C (ci : Nat) : String := am_cn ci
def am_T : Nat → u_T := fun ci => match ci with
  | 0 => TX0
  | 1 => TX1
  | 2 => TX2
  | 3 => TX3
  | 4 => TX4
  | 5 => TX5
  | 6 => TX6
  | _ => TX7
def am_ty : Nat → Nat → FieldType := fun ci => match ci with
  | 0 => tyX0
  | 1 => tyX1
  | 2 => tyX2
  | 3 => tyX3
  | 4 => tyX4
  | 5 => tyX5
  | 6 => tyX6
  | _ => tyX7
def am_N (ci : Nat) : Nat := [6, 12, 3, 4, 7, 7, 12, 38].getD ci 0
