section
-- ===== PART A: goes FIRST, ahead of the names: the tables' words, and 'selects' of the private methods out of them =====
/-- a private method of a class that the tables say can be made, by its rows of tables_1 -/
def lw_okq (q : MethodName × Nat) : Prop := (q.1.cls ≠ "java/lang/invoke/MethodHandle" ∧ q.1.cls ≠ "java/lang/invoke/VarHandle") ∧ Cond.instantiable q.1.cls q.2 ∈ tables_1 ∧ Cond.privateMethod q.1 ∈ tables_1 ∧ Cond.instanceMethod q.1 ∈ tables_1
theorem lw_p0 : lw_okq (⟨"DayBench", "isEvent", "(I)Z"⟩, 11) := ⟨⟨by decide +kernel, by decide +kernel⟩, List.mem_of_getElem? (i := 11) (by decide +kernel), List.mem_of_getElem? (i := 291) (by decide +kernel), List.mem_of_getElem? (i := 292) (by decide +kernel)⟩
theorem lw_p1 : lw_okq (⟨"DayBench", "isBehind", "(IIII)Z"⟩, 11) := ⟨⟨by decide +kernel, by decide +kernel⟩, List.mem_of_getElem? (i := 11) (by decide +kernel), List.mem_of_getElem? (i := 299) (by decide +kernel), List.mem_of_getElem? (i := 300) (by decide +kernel)⟩
theorem lw_p2 : lw_okq (⟨"DayBench", "fillSpans", "(LDayBench$Spans;IIII)V"⟩, 11) := ⟨⟨by decide +kernel, by decide +kernel⟩, List.mem_of_getElem? (i := 11) (by decide +kernel), List.mem_of_getElem? (i := 309) (by decide +kernel), List.mem_of_getElem? (i := 310) (by decide +kernel)⟩
theorem lw_p3 : lw_okq (⟨"DayBench", "addReign", "(LDayBench$Spans;II)V"⟩, 11) := ⟨⟨by decide +kernel, by decide +kernel⟩, List.mem_of_getElem? (i := 11) (by decide +kernel), List.mem_of_getElem? (i := 332) (by decide +kernel), List.mem_of_getElem? (i := 333) (by decide +kernel)⟩
theorem lw_p4 : lw_okq (⟨"DayBench", "isSaying", "(I)Z"⟩, 11) := ⟨⟨by decide +kernel, by decide +kernel⟩, List.mem_of_getElem? (i := 11) (by decide +kernel), List.mem_of_getElem? (i := 344) (by decide +kernel), List.mem_of_getElem? (i := 345) (by decide +kernel)⟩
theorem lw_p5 : lw_okq (⟨"DayBench", "rootOf", "(I)I"⟩, 11) := ⟨⟨by decide +kernel, by decide +kernel⟩, List.mem_of_getElem? (i := 11) (by decide +kernel), List.mem_of_getElem? (i := 356) (by decide +kernel), List.mem_of_getElem? (i := 357) (by decide +kernel)⟩
theorem lw_p6 : lw_okq (⟨"DayBench", "askAllWays", "(I)I"⟩, 11) := ⟨⟨by decide +kernel, by decide +kernel⟩, List.mem_of_getElem? (i := 11) (by decide +kernel), List.mem_of_getElem? (i := 372) (by decide +kernel), List.mem_of_getElem? (i := 373) (by decide +kernel)⟩
theorem lw_p7 : lw_okq (⟨"DayBench", "takenSet", "()I"⟩, 11) := ⟨⟨by decide +kernel, by decide +kernel⟩, List.mem_of_getElem? (i := 11) (by decide +kernel), List.mem_of_getElem? (i := 381) (by decide +kernel), List.mem_of_getElem? (i := 382) (by decide +kernel)⟩
theorem lw_p8 : lw_okq (⟨"DayBench$Search", "clearTable", "()V"⟩, 14) := ⟨⟨by decide +kernel, by decide +kernel⟩, List.mem_of_getElem? (i := 89) (by decide +kernel), List.mem_of_getElem? (i := 389) (by decide +kernel), List.mem_of_getElem? (i := 390) (by decide +kernel)⟩
theorem lw_p9 : lw_okq (⟨"DayBench$Search", "layBehind", "(LDayBench$Saying;)V"⟩, 14) := ⟨⟨by decide +kernel, by decide +kernel⟩, List.mem_of_getElem? (i := 89) (by decide +kernel), List.mem_of_getElem? (i := 396) (by decide +kernel), List.mem_of_getElem? (i := 397) (by decide +kernel)⟩
theorem lw_p10 : lw_okq (⟨"DayBench$Search", "keepCommon", "(ILDayBench$Spans;)V"⟩, 14) := ⟨⟨by decide +kernel, by decide +kernel⟩, List.mem_of_getElem? (i := 89) (by decide +kernel), List.mem_of_getElem? (i := 400) (by decide +kernel), List.mem_of_getElem? (i := 401) (by decide +kernel)⟩
theorem lw_p11 : lw_okq (⟨"DayBench$Search", "closeApart", "()Z"⟩, 14) := ⟨⟨by decide +kernel, by decide +kernel⟩, List.mem_of_getElem? (i := 89) (by decide +kernel), List.mem_of_getElem? (i := 410) (by decide +kernel), List.mem_of_getElem? (i := 411) (by decide +kernel)⟩
theorem lw_p12 : lw_okq (⟨"DayBench$Search", "boundDays", "()V"⟩, 14) := ⟨⟨by decide +kernel, by decide +kernel⟩, List.mem_of_getElem? (i := 89) (by decide +kernel), List.mem_of_getElem? (i := 414) (by decide +kernel), List.mem_of_getElem? (i := 415) (by decide +kernel)⟩
theorem lw_p13 : lw_okq (⟨"DayBench$Search", "takeSpans", "(I)V"⟩, 14) := ⟨⟨by decide +kernel, by decide +kernel⟩, List.mem_of_getElem? (i := 89) (by decide +kernel), List.mem_of_getElem? (i := 423) (by decide +kernel), List.mem_of_getElem? (i := 424) (by decide +kernel)⟩
theorem lw_p14 : lw_okq (⟨"DayBench$Search", "noteWay", "()V"⟩, 14) := ⟨⟨by decide +kernel, by decide +kernel⟩, List.mem_of_getElem? (i := 89) (by decide +kernel), List.mem_of_getElem? (i := 427) (by decide +kernel), List.mem_of_getElem? (i := 428) (by decide +kernel)⟩
theorem lw_p15 : lw_okq (⟨"DayBench$Search", "narrow", "(III)Z"⟩, 14) := ⟨⟨by decide +kernel, by decide +kernel⟩, List.mem_of_getElem? (i := 89) (by decide +kernel), List.mem_of_getElem? (i := 431) (by decide +kernel), List.mem_of_getElem? (i := 432) (by decide +kernel)⟩
def lw_privs_1 : List (MethodName × Nat) := [(⟨"DayBench", "isEvent", "(I)Z"⟩, 11), (⟨"DayBench", "isBehind", "(IIII)Z"⟩, 11), (⟨"DayBench", "fillSpans", "(LDayBench$Spans;IIII)V"⟩, 11), (⟨"DayBench", "addReign", "(LDayBench$Spans;II)V"⟩, 11), (⟨"DayBench", "isSaying", "(I)Z"⟩, 11), (⟨"DayBench", "rootOf", "(I)I"⟩, 11), (⟨"DayBench", "askAllWays", "(I)I"⟩, 11), (⟨"DayBench", "takenSet", "()I"⟩, 11), (⟨"DayBench$Search", "clearTable", "()V"⟩, 14), (⟨"DayBench$Search", "layBehind", "(LDayBench$Saying;)V"⟩, 14), (⟨"DayBench$Search", "keepCommon", "(ILDayBench$Spans;)V"⟩, 14), (⟨"DayBench$Search", "closeApart", "()Z"⟩, 14), (⟨"DayBench$Search", "boundDays", "()V"⟩, 14), (⟨"DayBench$Search", "takeSpans", "(I)V"⟩, 14), (⟨"DayBench$Search", "noteWay", "()V"⟩, 14), (⟨"DayBench$Search", "narrow", "(III)Z"⟩, 14)]
theorem lw_r1 : ∀ q ∈ lw_privs_1, lw_okq q := List.forall_mem_cons.mpr ⟨lw_p0, List.forall_mem_cons.mpr ⟨lw_p1, List.forall_mem_cons.mpr ⟨lw_p2, List.forall_mem_cons.mpr ⟨lw_p3, List.forall_mem_cons.mpr ⟨lw_p4, List.forall_mem_cons.mpr ⟨lw_p5, List.forall_mem_cons.mpr ⟨lw_p6, List.forall_mem_cons.mpr ⟨lw_p7, List.forall_mem_cons.mpr ⟨lw_p8, List.forall_mem_cons.mpr ⟨lw_p9, List.forall_mem_cons.mpr ⟨lw_p10, List.forall_mem_cons.mpr ⟨lw_p11, List.forall_mem_cons.mpr ⟨lw_p12, List.forall_mem_cons.mpr ⟨lw_p13, List.forall_mem_cons.mpr ⟨lw_p14, List.forall_mem_cons.mpr ⟨lw_p15, fun _ h => absurd h List.not_mem_nil⟩⟩⟩⟩⟩⟩⟩⟩⟩⟩⟩⟩⟩⟩⟩⟩
theorem lw_p16 : lw_okq (⟨"DayBench", "askSet", "(I)I"⟩, 11) := ⟨⟨by decide +kernel, by decide +kernel⟩, List.mem_of_getElem? (i := 11) (by decide +kernel), List.mem_of_getElem? (i := 451) (by decide +kernel), List.mem_of_getElem? (i := 452) (by decide +kernel)⟩
theorem lw_p17 : lw_okq (⟨"DayBench", "quarrelWith", "(IIII)I"⟩, 11) := ⟨⟨by decide +kernel, by decide +kernel⟩, List.mem_of_getElem? (i := 11) (by decide +kernel), List.mem_of_getElem? (i := 459) (by decide +kernel), List.mem_of_getElem? (i := 460) (by decide +kernel)⟩
theorem lw_p18 : lw_okq (⟨"DayBench", "gatherGroups", "(I)V"⟩, 11) := ⟨⟨by decide +kernel, by decide +kernel⟩, List.mem_of_getElem? (i := 11) (by decide +kernel), List.mem_of_getElem? (i := 467) (by decide +kernel), List.mem_of_getElem? (i := 468) (by decide +kernel)⟩
theorem lw_p19 : lw_okq (⟨"DayBench", "askWidth", "(II)I"⟩, 11) := ⟨⟨by decide +kernel, by decide +kernel⟩, List.mem_of_getElem? (i := 11) (by decide +kernel), List.mem_of_getElem? (i := 514) (by decide +kernel), List.mem_of_getElem? (i := 515) (by decide +kernel)⟩
theorem lw_p20 : lw_okq (⟨"DayBench", "greaterWidth", "(I)I"⟩, 11) := ⟨⟨by decide +kernel, by decide +kernel⟩, List.mem_of_getElem? (i := 11) (by decide +kernel), List.mem_of_getElem? (i := 523) (by decide +kernel), List.mem_of_getElem? (i := 524) (by decide +kernel)⟩
theorem lw_p21 : lw_okq (⟨"DayBenchModel", "finds", "(II)Z"⟩, 43) := ⟨⟨by decide +kernel, by decide +kernel⟩, List.mem_of_getElem? (i := 532) (by decide +kernel), List.mem_of_getElem? (i := 697) (by decide +kernel), List.mem_of_getElem? (i := 698) (by decide +kernel)⟩
theorem lw_p22 : lw_okq (⟨"DayBenchModel", "behind", "(III)I"⟩, 43) := ⟨⟨by decide +kernel, by decide +kernel⟩, List.mem_of_getElem? (i := 532) (by decide +kernel), List.mem_of_getElem? (i := 706) (by decide +kernel), List.mem_of_getElem? (i := 707) (by decide +kernel)⟩
theorem lw_p23 : lw_okq (⟨"DayBenchModel", "canSay", "(IIIII)Z"⟩, 43) := ⟨⟨by decide +kernel, by decide +kernel⟩, List.mem_of_getElem? (i := 532) (by decide +kernel), List.mem_of_getElem? (i := 722) (by decide +kernel), List.mem_of_getElem? (i := 723) (by decide +kernel)⟩
theorem lw_p24 : lw_okq (⟨"DayBenchModel", "spans", "(IIII)Z"⟩, 43) := ⟨⟨by decide +kernel, by decide +kernel⟩, List.mem_of_getElem? (i := 532) (by decide +kernel), List.mem_of_getElem? (i := 726) (by decide +kernel), List.mem_of_getElem? (i := 727) (by decide +kernel)⟩
theorem lw_p25 : lw_okq (⟨"DayBenchModel", "lays", "(II)V"⟩, 43) := ⟨⟨by decide +kernel, by decide +kernel⟩, List.mem_of_getElem? (i := 532) (by decide +kernel), List.mem_of_getElem? (i := 730) (by decide +kernel), List.mem_of_getElem? (i := 731) (by decide +kernel)⟩
theorem lw_p26 : lw_okq (⟨"DayBenchModel", "isYear", "(II)Z"⟩, 43) := ⟨⟨by decide +kernel, by decide +kernel⟩, List.mem_of_getElem? (i := 532) (by decide +kernel), List.mem_of_getElem? (i := 736) (by decide +kernel), List.mem_of_getElem? (i := 737) (by decide +kernel)⟩
theorem lw_p27 : lw_okq (⟨"DayBenchModel", "reign", "(II)V"⟩, 43) := ⟨⟨by decide +kernel, by decide +kernel⟩, List.mem_of_getElem? (i := 532) (by decide +kernel), List.mem_of_getElem? (i := 740) (by decide +kernel), List.mem_of_getElem? (i := 741) (by decide +kernel)⟩
theorem lw_p28 : lw_okq (⟨"DayBenchModel", "isSaying", "(I)Z"⟩, 43) := ⟨⟨by decide +kernel, by decide +kernel⟩, List.mem_of_getElem? (i := 532) (by decide +kernel), List.mem_of_getElem? (i := 750) (by decide +kernel), List.mem_of_getElem? (i := 751) (by decide +kernel)⟩
theorem lw_p29 : lw_okq (⟨"DayBenchModel", "rootOf", "(I)I"⟩, 43) := ⟨⟨by decide +kernel, by decide +kernel⟩, List.mem_of_getElem? (i := 532) (by decide +kernel), List.mem_of_getElem? (i := 762) (by decide +kernel), List.mem_of_getElem? (i := 763) (by decide +kernel)⟩
theorem lw_p30 : lw_okq (⟨"DayBenchModel", "isEvent", "(I)Z"⟩, 43) := ⟨⟨by decide +kernel, by decide +kernel⟩, List.mem_of_getElem? (i := 532) (by decide +kernel), List.mem_of_getElem? (i := 774) (by decide +kernel), List.mem_of_getElem? (i := 775) (by decide +kernel)⟩
theorem lw_p31 : lw_okq (⟨"DayBenchModel", "takenAll", "()I"⟩, 43) := ⟨⟨by decide +kernel, by decide +kernel⟩, List.mem_of_getElem? (i := 532) (by decide +kernel), List.mem_of_getElem? (i := 778) (by decide +kernel), List.mem_of_getElem? (i := 779) (by decide +kernel)⟩
def lw_privs_2 : List (MethodName × Nat) := [(⟨"DayBench", "askSet", "(I)I"⟩, 11), (⟨"DayBench", "quarrelWith", "(IIII)I"⟩, 11), (⟨"DayBench", "gatherGroups", "(I)V"⟩, 11), (⟨"DayBench", "askWidth", "(II)I"⟩, 11), (⟨"DayBench", "greaterWidth", "(I)I"⟩, 11), (⟨"DayBenchModel", "finds", "(II)Z"⟩, 43), (⟨"DayBenchModel", "behind", "(III)I"⟩, 43), (⟨"DayBenchModel", "canSay", "(IIIII)Z"⟩, 43), (⟨"DayBenchModel", "spans", "(IIII)Z"⟩, 43), (⟨"DayBenchModel", "lays", "(II)V"⟩, 43), (⟨"DayBenchModel", "isYear", "(II)Z"⟩, 43), (⟨"DayBenchModel", "reign", "(II)V"⟩, 43), (⟨"DayBenchModel", "isSaying", "(I)Z"⟩, 43), (⟨"DayBenchModel", "rootOf", "(I)I"⟩, 43), (⟨"DayBenchModel", "isEvent", "(I)Z"⟩, 43), (⟨"DayBenchModel", "takenAll", "()I"⟩, 43)]
theorem lw_r2 : ∀ q ∈ lw_privs_2, lw_okq q := List.forall_mem_cons.mpr ⟨lw_p16, List.forall_mem_cons.mpr ⟨lw_p17, List.forall_mem_cons.mpr ⟨lw_p18, List.forall_mem_cons.mpr ⟨lw_p19, List.forall_mem_cons.mpr ⟨lw_p20, List.forall_mem_cons.mpr ⟨lw_p21, List.forall_mem_cons.mpr ⟨lw_p22, List.forall_mem_cons.mpr ⟨lw_p23, List.forall_mem_cons.mpr ⟨lw_p24, List.forall_mem_cons.mpr ⟨lw_p25, List.forall_mem_cons.mpr ⟨lw_p26, List.forall_mem_cons.mpr ⟨lw_p27, List.forall_mem_cons.mpr ⟨lw_p28, List.forall_mem_cons.mpr ⟨lw_p29, List.forall_mem_cons.mpr ⟨lw_p30, List.forall_mem_cons.mpr ⟨lw_p31, fun _ h => absurd h List.not_mem_nil⟩⟩⟩⟩⟩⟩⟩⟩⟩⟩⟩⟩⟩⟩⟩⟩
theorem lw_p32 : lw_okq (⟨"DayBenchModel", "begins", "(I)V"⟩, 43) := ⟨⟨by decide +kernel, by decide +kernel⟩, List.mem_of_getElem? (i := 532) (by decide +kernel), List.mem_of_getElem? (i := 782) (by decide +kernel), List.mem_of_getElem? (i := 783) (by decide +kernel)⟩
theorem lw_p33 : lw_okq (⟨"DayBenchModel", "walks", "(Z)V"⟩, 43) := ⟨⟨by decide +kernel, by decide +kernel⟩, List.mem_of_getElem? (i := 532) (by decide +kernel), List.mem_of_getElem? (i := 786) (by decide +kernel), List.mem_of_getElem? (i := 787) (by decide +kernel)⟩
theorem lw_p34 : lw_okq (⟨"DayBenchModel", "eventSpans", "()V"⟩, 43) := ⟨⟨by decide +kernel, by decide +kernel⟩, List.mem_of_getElem? (i := 532) (by decide +kernel), List.mem_of_getElem? (i := 790) (by decide +kernel), List.mem_of_getElem? (i := 791) (by decide +kernel)⟩
theorem lw_p35 : lw_okq (⟨"DayBenchModel", "isAsked", "(I)Z"⟩, 43) := ⟨⟨by decide +kernel, by decide +kernel⟩, List.mem_of_getElem? (i := 532) (by decide +kernel), List.mem_of_getElem? (i := 794) (by decide +kernel), List.mem_of_getElem? (i := 795) (by decide +kernel)⟩
theorem lw_p36 : lw_okq (⟨"DayBenchModel", "cutsDown", "(II)V"⟩, 43) := ⟨⟨by decide +kernel, by decide +kernel⟩, List.mem_of_getElem? (i := 532) (by decide +kernel), List.mem_of_getElem? (i := 798) (by decide +kernel), List.mem_of_getElem? (i := 799) (by decide +kernel)⟩
theorem lw_p37 : lw_okq (⟨"DayBenchModel", "toFind", "(I)V"⟩, 43) := ⟨⟨by decide +kernel, by decide +kernel⟩, List.mem_of_getElem? (i := 532) (by decide +kernel), List.mem_of_getElem? (i := 802) (by decide +kernel), List.mem_of_getElem? (i := 803) (by decide +kernel)⟩
theorem lw_p38 : lw_okq (⟨"DayBenchModel", "canBe", "(I)Z"⟩, 43) := ⟨⟨by decide +kernel, by decide +kernel⟩, List.mem_of_getElem? (i := 532) (by decide +kernel), List.mem_of_getElem? (i := 806) (by decide +kernel), List.mem_of_getElem? (i := 807) (by decide +kernel)⟩
theorem lw_p39 : lw_okq (⟨"DayBenchModel", "narrows", "(IIII)Z"⟩, 43) := ⟨⟨by decide +kernel, by decide +kernel⟩, List.mem_of_getElem? (i := 532) (by decide +kernel), List.mem_of_getElem? (i := 810) (by decide +kernel), List.mem_of_getElem? (i := 811) (by decide +kernel)⟩
theorem lw_p40 : lw_okq (⟨"DayBenchModel", "widens", "()V"⟩, 43) := ⟨⟨by decide +kernel, by decide +kernel⟩, List.mem_of_getElem? (i := 532) (by decide +kernel), List.mem_of_getElem? (i := 814) (by decide +kernel), List.mem_of_getElem? (i := 815) (by decide +kernel)⟩
theorem lw_p41 : lw_okq (⟨"DayBenchModel", "nextOf", "(III)I"⟩, 43) := ⟨⟨by decide +kernel, by decide +kernel⟩, List.mem_of_getElem? (i := 532) (by decide +kernel), List.mem_of_getElem? (i := 834) (by decide +kernel), List.mem_of_getElem? (i := 835) (by decide +kernel)⟩
theorem lw_p42 : lw_okq (⟨"DayBenchModel", "rootsTaken", "()I"⟩, 43) := ⟨⟨by decide +kernel, by decide +kernel⟩, List.mem_of_getElem? (i := 532) (by decide +kernel), List.mem_of_getElem? (i := 848) (by decide +kernel), List.mem_of_getElem? (i := 849) (by decide +kernel)⟩
theorem lw_p43 : lw_okq (⟨"DayBenchModel", "without", "(I)I"⟩, 43) := ⟨⟨by decide +kernel, by decide +kernel⟩, List.mem_of_getElem? (i := 532) (by decide +kernel), List.mem_of_getElem? (i := 852) (by decide +kernel), List.mem_of_getElem? (i := 853) (by decide +kernel)⟩
theorem lw_p44 : lw_okq (⟨"DayBenchModel", "widthOf", "(II)I"⟩, 43) := ⟨⟨by decide +kernel, by decide +kernel⟩, List.mem_of_getElem? (i := 532) (by decide +kernel), List.mem_of_getElem? (i := 864) (by decide +kernel), List.mem_of_getElem? (i := 865) (by decide +kernel)⟩
def lw_privs_3 : List (MethodName × Nat) := [(⟨"DayBenchModel", "begins", "(I)V"⟩, 43), (⟨"DayBenchModel", "walks", "(Z)V"⟩, 43), (⟨"DayBenchModel", "eventSpans", "()V"⟩, 43), (⟨"DayBenchModel", "isAsked", "(I)Z"⟩, 43), (⟨"DayBenchModel", "cutsDown", "(II)V"⟩, 43), (⟨"DayBenchModel", "toFind", "(I)V"⟩, 43), (⟨"DayBenchModel", "canBe", "(I)Z"⟩, 43), (⟨"DayBenchModel", "narrows", "(IIII)Z"⟩, 43), (⟨"DayBenchModel", "widens", "()V"⟩, 43), (⟨"DayBenchModel", "nextOf", "(III)I"⟩, 43), (⟨"DayBenchModel", "rootsTaken", "()I"⟩, 43), (⟨"DayBenchModel", "without", "(I)I"⟩, 43), (⟨"DayBenchModel", "widthOf", "(II)I"⟩, 43)]
theorem lw_r3 : ∀ q ∈ lw_privs_3, lw_okq q := List.forall_mem_cons.mpr ⟨lw_p32, List.forall_mem_cons.mpr ⟨lw_p33, List.forall_mem_cons.mpr ⟨lw_p34, List.forall_mem_cons.mpr ⟨lw_p35, List.forall_mem_cons.mpr ⟨lw_p36, List.forall_mem_cons.mpr ⟨lw_p37, List.forall_mem_cons.mpr ⟨lw_p38, List.forall_mem_cons.mpr ⟨lw_p39, List.forall_mem_cons.mpr ⟨lw_p40, List.forall_mem_cons.mpr ⟨lw_p41, List.forall_mem_cons.mpr ⟨lw_p42, List.forall_mem_cons.mpr ⟨lw_p43, List.forall_mem_cons.mpr ⟨lw_p44, fun _ h => absurd h List.not_mem_nil⟩⟩⟩⟩⟩⟩⟩⟩⟩⟩⟩⟩⟩
def lw_privs : List (MethodName × Nat) := lw_privs_1 ++ (lw_privs_2 ++ (lw_privs_3))
def lw_tbl : List Cond := k2_sels lw_privs ++ tables_1
theorem lw_privs_ok : ∀ q ∈ lw_privs, lw_okq q := by
  show ∀ q ∈ lw_privs_1 ++ (lw_privs_2 ++ (lw_privs_3)), lw_okq q
  exact List.forall_mem_append.mpr ⟨lw_r1, List.forall_mem_append.mpr ⟨lw_r2, lw_r3⟩⟩
-- ===== end of PART A; then your names; then what follows =====
end
section
/-! ===== BEGIN words of one list among another's, by their places ===== -/
theorem goodIn_r {big : List Cond} (ws : List Cond) (ps : List Nat) (hp : ws = ps.filterMap (fun i => big[i]?)) (h : ws.all goodWord = true) : GoodIn big ws := by
  intro w hw
  have h1 := List.all_eq_true.mp h w hw
  rw [hp] at hw
  obtain ⟨i, -, hi⟩ := List.mem_filterMap.mp hw
  have hm : w ∈ big := by first | exact List.mem_of_getElem? hi | exact List.getElem?_mem hi
  exact ⟨hm, good_of_word h1⟩
theorem goodIn_app {big a b : List Cond} (ha : GoodIn big a) (hb : GoodIn big b) : GoodIn big (a ++ b) := fun w h => (List.mem_append.mp h).elim (ha w) (hb w)
theorem goodIn_ca {big a b : List Cond} {c : Cond} (ha : GoodIn big (c :: a)) (hb : GoodIn big b) : GoodIn big (c :: (a ++ b)) := fun w h => (List.mem_cons.mp h).elim (fun e => ha w (List.mem_cons.mpr (Or.inl e))) (fun h => (List.mem_append.mp h).elim (fun h => ha w (List.mem_cons.mpr (Or.inr h))) (hb w))
theorem goodIn_sub {big ws : List Cond} (hm : ∀ w ∈ ws, w ∈ big) (h : ws.all goodWord = true) : GoodIn big ws := fun w hw => ⟨hm w hw, good_of_word (List.all_eq_true.mp h w hw)⟩
/-! ===== END ===== -/

/-- the tables' word on arrays of arrays (mine: the printed names use it, the kit lacks it) -/
def va_AOA (ty : FieldType) (U : State) : Prop := (Cond.arrayOver (.array ty)).before #[] U = true
theorem va_AOA.use {ty : FieldType} {A : Array Value} {U : State} (h : va_AOA ty U) : (Cond.arrayOver (.array ty)).before A U = true := h
/-! ===== BEGIN new T[n][m]: the outer array a place, the inner ones among the pooled ===== -/
/-- f, but v at every address of l -/
def vr_up {α : Type} (f : Nat → α) (l : List Nat) (v : α) : Nat → α := fun a => if a ∈ l then v else f a
theorem vr_up_in {α : Type} {f : Nat → α} {l : List Nat} {v : α} {a : Nat} (h : a ∈ l) : vr_up f l v a = v := if_pos h
theorem vr_up_ne {α : Type} {f : Nat → α} {l : List Nat} {v : α} {a : Nat} (h : a ∉ l) : vr_up f l v a = f a := if_neg h
theorem vr_rows {L l : List Nat} {f : Nat → va_E} {e : va_E} (h : ∀ a, a ∈ l → a ∉ L) : va_pl L f ++ l.map (fun a => (a, e)) = va_pl (L ++ l) (vr_up f l e) := by
  unfold va_pl
  rw [List.map_append]
  congr 1
  · apply List.map_congr_left
    intro a ha
    rw [vr_up_ne (fun q => h a q ha)]
  · apply List.map_congr_left
    intro a ha
    rw [vr_up_in ha]
theorem vr_lay {X rows : va_W} {x : Nat × va_E} {pl : va_W} {D : va_G} {cl : List vw_C} {H : Heap} (hP : va_P D cl (((X ++ pl) ++ [x]) ++ rows) H) : va_P D cl ((X ++ [x]) ++ (pl ++ rows)) H := by
  rw [List.append_assoc (X ++ pl)] at hP
  have h := va_P.swap hP
  rw [← List.append_assoc X] at h
  have h2 := va_P.swap h
  rw [List.append_assoc (X ++ [x])] at h2
  exact h2
theorem vr_layD {X rows : va_W} {x : Nat × va_E} {pl : va_W} {A : Nat → Prop} (hD : va_D A (((X ++ pl) ++ [x]) ++ rows)) : va_D A ((X ++ [x]) ++ (pl ++ rows)) := by
  rw [List.append_assoc (X ++ pl)] at hD
  have h := va_D.swap hD
  rw [← List.append_assoc X] at h
  have h2 := va_D.swap h
  rw [List.append_assoc (X ++ [x])] at h2
  exact h2
theorem vr_outer (c : ClassId) (N h0 : Nat) : ∀ i : Nat, Jvm.Free.Multi.outerC c N h0 i = arrV c N (fun j => va_rf (if j < i then some (h0 + 1 + j) else none))
  | 0 => by
    show ({ cls := c, slots := Array.replicate N .null, vm := .none } : Cell) = _
    rw [arrV_new]
    refine congrArg (arrV c N) (funext fun j => ?_)
    simp [va_rf]
  | i + 1 => by
    show (Jvm.Free.Multi.outerC c N h0 i).setSlot i (.ref (h0 + 1 + i)) = _
    rw [vr_outer c N h0 i, arrV_store]
    refine congrArg (arrV c N) (funext fun j => ?_)
    by_cases e : j = i
    · subst e
      simp [updV, va_rf]
    · by_cases h : j < i
      · simp [updV, e, h, Nat.lt_succ_of_lt h]
      · simp [updV, e, h, show ¬ j < i + 1 by omega]
section VGM
variable {p : Program} {l : Launch} {e : Env} {R : Room} {s : State} {m : MethodId} {args : Array Value} {below : List Frame} {meth : Method} {c : Code} {H : Heap} {locs : List Loc} {cells slots : Nat} {Q : State → Prop}
variable {cc : ByteArray} {pc : Nat} {ls : Array Slot} {rest : List Value} {D : va_G} {cl : List vw_C} {A : Nat → Prop} {a : Nat} {tys : List (ClassId × FieldType)} {ws : va_W} {H0 : Heap}
theorem va_mna {X : va_W} {L : List Nat} {f : Nat → va_E} {cc : ByteArray} (hexec : p.tables.exec = Jvm.exec) (hb : c.code = cc) {own : String} {index : Nat} {ty : FieldType} {cy : ClassId} (hown : s.vm.findClass own = some m.cls) (hclink : (Cond.classLink own index ("[" ++ (FieldType.array ty).toString)).before args s = true) (hover : va_AOA ty s) (harr : (Cond.arrayClass ty).before args s = true) (hcy : s.vm.findClass (FieldType.array ty).toString = some cy)
    (hK : va_K D cl tys s) (hP : va_P D cl (X ++ va_pl L f) H) (hD : va_D A (X ++ va_pl L f)) (hS : va_S A H0 H locs) (hA : ∀ q, H0.size ≤ q → A q) {n k : Int32} {N' K' : Nat} {z : vp_A} (hn : ¬ n < 0) (hk : ¬ k < 0) (hN : n.toNatClampNeg = N') (hM : k.toNatClampNeg = K')
    (hb1 : N' * 4 ≤ 536870912) (hb2 : K' * componentBytes ty ≤ 536870912) (hb3 : K' ≤ 536870912) (hdf : fits ty (defaultValue ty) = true) (hdd : (defaultValue ty).isDefault = true) (hcells : cells + (1 + N') ≤ R.cells) (hslots : slots + (N' + N' * K') ≤ R.slots) (hz : ∀ c : ClassId, Jvm.Free.Multi.innerC c K' (defaultValue ty) = vp_cell c z) (hdg : decode cc pc = .ok (.multianewarray index 2, 4))
    (kk : ∀ (q : Nat) (r : Nat → Nat) (cA : ClassId) (H1 : Heap), (∀ i j : Nat, i < N' → j < N' → r i = r j → i = j) → (∀ i : Nat, i < N' → r i ∉ L) → va_K D cl (tys ++ [(cA, .array ty)]) s →
      va_P D cl ((X ++ [(q, .inl (cA, N', .inr (.inr (.inr (.inr (fun i => if i < N' then some (r i) else none))))))]) ++ va_pl (L ++ (List.range N').map r) (vr_up f ((List.range N').map r) (.inl (cy, z)))) H1 → va_D A ((X ++ [(q, .inl (cA, N', .inr (.inr (.inr (.inr (fun i => if i < N' then some (r i) else none))))))]) ++ va_pl (L ++ (List.range N').map r) (vr_up f ((List.range N').map r) (.inl (cy, z)))) → va_S A H0 H1 locs →
      W p l e R s m args below meth c H1 locs (cells + 1 + N') (slots + N' + N' * K') Q (F0 m (pc + 4) ls (.ref q :: rest))) : W p l e R s m args below meth c H locs cells slots Q (F0 m pc ls (.int k :: .int n :: rest)) := by
  subst hN
  subst hM
  intro T hT Xs
  obtain ⟨vm₁, cA, comp, -, fA, fC, hO, -, X', step⟩ := Xs.multianewarray2F hexec hown hclink (va_AOA.use hover) harr (g := F0 m pc ls (.int k :: .int n :: rest)) rfl (by rw [hb]; exact hdg) rfl hn hk hb1 hb2 hb3 hdf hdd hcells hslots
  have ec : some cy = some comp := hcy.symm.trans fC
  cases ec
  generalize hF : Jvm.Free.Multi.fill (T.setVm vm₁) cA cy n.toNatClampNeg k.toNatClampNeg (defaultValue ty) n.toNatClampNeg = F at X' step
  have hTh : (T.setVm vm₁).heap = H := hT
  obtain ⟨f1, f2, -, -⟩ := Jvm.Free.Multi.fill_facts (T.setVm vm₁) cA cy n.toNatClampNeg k.toNatClampNeg (defaultValue ty) n.toNatClampNeg
  rw [hF, hTh] at f1 f2
  have hold : ∀ x : Nat, x < H.size → F.heap[x]? = H[x]? := fun x hx => by
    have := Jvm.Free.Multi.fill_old (T.setVm vm₁) cA cy n.toNatClampNeg k.toNatClampNeg (defaultValue ty) (a := x) (by rw [hTh]; exact hx) n.toNatClampNeg
    rw [hF, hTh] at this
    exact this
  have hrow : ∀ j : Nat, j < n.toNatClampNeg → F.heap[H.size + 1 + j]? = some (vp_cell cy z) := fun j hj => by
    have := Jvm.Free.Multi.fill_inner (T.setVm vm₁) cA cy n.toNatClampNeg k.toNatClampNeg (defaultValue ty) n.toNatClampNeg j hj
    rw [hF, hTh, hz] at this
    exact this
  have hout : Jvm.Free.Multi.outerC cA n.toNatClampNeg H.size n.toNatClampNeg = vp_cell cA (n.toNatClampNeg, .inr (.inr (.inr (.inr (fun i => if i < n.toNatClampNeg then some (H.size + 1 + i) else none))))) := by
    rw [vp_cell_q]
    exact vr_outer cA n.toNatClampNeg H.size n.toNatClampNeg
  rw [hout] at f2
  have hlt : ∀ a, a ∈ L → a < H.size := fun a ha => by
    obtain ⟨k9, hk9⟩ := va_pl_get (X := X) (f := f) ha
    exact (hP k9 _ hk9).lt
  have hnl : ∀ i : Nat, i < n.toNatClampNeg → H.size + 1 + i ∉ L := fun i _ h => by
    have := hlt _ h
    omega
  have hnm : ∀ a, a ∈ (List.range n.toNatClampNeg).map (fun i => H.size + 1 + i) → a ∉ L := fun a ha h => by
    obtain ⟨i, -, rfl⟩ := List.mem_map.mp ha
    have := hlt _ h
    omega
  have hP0 : va_P D cl (X ++ va_pl L f) F.heap := hP.kept (fun k9 x hx => hold x.1 ((hP k9 x hx).lt))
  have hP1 : va_P D cl ((X ++ va_pl L f) ++ [(H.size, .inl (cA, n.toNatClampNeg, .inr (.inr (.inr (.inr (fun i => if i < n.toNatClampNeg then some (H.size + 1 + i) else none))))))]) F.heap := hP0.app (fun k9 x hx => by
    have h0 : k9 < 1 := (List.getElem?_eq_some_iff.mp hx).1
    rw [show k9 = 0 by omega] at hx
    cases hx
    exact f2)
  have hP2 : va_P D cl (((X ++ va_pl L f) ++ [(H.size, .inl (cA, n.toNatClampNeg, .inr (.inr (.inr (.inr (fun i => if i < n.toNatClampNeg then some (H.size + 1 + i) else none))))))]) ++ ((List.range n.toNatClampNeg).map (fun i => H.size + 1 + i)).map (fun a => (a, .inl (cy, z)))) F.heap := hP1.app (fun k9 x hx => by
    obtain ⟨a, ha, rfl⟩ := List.mem_map.mp (List.mem_of_getElem? hx)
    obtain ⟨i, hi, rfl⟩ := List.mem_map.mp ha
    exact hrow i (List.mem_range.mp hi))
  have hD2 : va_D A (((X ++ va_pl L f) ++ [(H.size, .inl (cA, n.toNatClampNeg, .inr (.inr (.inr (.inr (fun i => if i < n.toNatClampNeg then some (H.size + 1 + i) else none))))))]) ++ ((List.range n.toNatClampNeg).map (fun i => H.size + 1 + i)).map (fun a => (a, .inl (cy, z)))) := by
    have hD1 := hD.push (e := .inl (cA, n.toNatClampNeg, .inr (.inr (.inr (.inr (fun i => if i < n.toNatClampNeg then some (H.size + 1 + i) else none)))))) hP rfl (hA _ hS.1)
    generalize hW1 : (X ++ va_pl L f) ++ [(H.size, .inl (cA, n.toNatClampNeg, .inr (.inr (.inr (.inr (fun i => if i < n.toNatClampNeg then some (H.size + 1 + i) else none))))))] = W1 at hD1 hP1 ⊢
    have hle : ∀ (k9 : Nat) (x : Nat × va_E), W1[k9]? = some x → x.1 ≤ H.size := fun k9 x hx => by
      rw [← hW1] at hx
      by_cases hl : k9 < (X ++ va_pl L f).length
      · rw [List.getElem?_append_left hl] at hx
        exact Nat.le_of_lt ((hP k9 x hx).lt)
      · rw [List.getElem?_append_right (by omega)] at hx
        have h0 : k9 - (X ++ va_pl L f).length < 1 := (List.getElem?_eq_some_iff.mp hx).1
        rw [show k9 - (X ++ va_pl L f).length = 0 by omega] at hx
        cases hx
        exact Nat.le_refl _
    have hr : ∀ (k9 : Nat) (x : Nat × va_E), (((List.range n.toNatClampNeg).map (fun i => H.size + 1 + i)).map (fun a => ((a, .inl (cy, z)) : Nat × va_E)))[k9]? = some x → x.1 = H.size + 1 + k9 := fun k9 x hx => by
      rw [List.getElem?_map, List.getElem?_map] at hx
      by_cases h9 : k9 < n.toNatClampNeg
      · rw [List.getElem?_range h9] at hx
        cases hx
        rfl
      · have hn0 : (List.range n.toNatClampNeg)[k9]? = none := List.getElem?_eq_none (by rw [List.length_range]; omega)
        rw [hn0] at hx
        cases hx
    refine ⟨fun i j x y hi hj hxy => ?_, fun k9 x hx => ?_⟩
    · by_cases h1 : i < W1.length <;> by_cases h2 : j < W1.length
      · rw [List.getElem?_append_left h1] at hi
        rw [List.getElem?_append_left h2] at hj
        exact hD1.1 i j x y hi hj hxy
      · rw [List.getElem?_append_left h1] at hi
        rw [List.getElem?_append_right (by omega)] at hj
        have := hle _ _ hi
        have := hr _ _ hj
        omega
      · rw [List.getElem?_append_right (by omega)] at hi
        rw [List.getElem?_append_left h2] at hj
        have := hle _ _ hj
        have := hr _ _ hi
        omega
      · rw [List.getElem?_append_right (by omega)] at hi hj
        have := hr _ _ hi
        have := hr _ _ hj
        omega
    · by_cases h1 : k9 < W1.length
      · rw [List.getElem?_append_left h1] at hx
        exact hD1.2 k9 x hx
      · rw [List.getElem?_append_right (by omega)] at hx
        have := hr _ _ hx
        exact hA _ (by have := hS.1; omega)
  have hAr : ArrOfT s cA (.array ty) := fun N9 z9 => by
    obtain ⟨-, k9, hk9, cm9, hkk9⟩ := (hO 0 0 0).1
    exact ⟨(fun q hq => by cases hq), k9, hk9, cm9, hkk9⟩
  have hK2 : va_K D cl (tys ++ [(cA, .array ty)]) s := ⟨hK.1, fun k9 x hx => by
    by_cases hl : k9 < tys.length
    · rw [List.getElem?_append_left hl] at hx
      exact hK.2 k9 x hx
    · rw [List.getElem?_append_right (by omega)] at hx
      have h0 : k9 - tys.length < 1 := (List.getElem?_eq_some_iff.mp hx).1
      rw [show k9 - tys.length = 0 by omega] at hx
      cases hx
      exact ⟨hAr, fA⟩⟩
  obtain ⟨t, a1, b1⟩ := kk H.size (fun i => H.size + 1 + i) cA F.heap (fun i j _ _ h => by have h9 : H.size + 1 + i = H.size + 1 + j := h; omega) hnl hK2 (by rw [← vr_rows hnm]; exact vr_lay hP2) (by rw [← vr_rows hnm]; exact vr_layD hD2) ⟨by rw [f1]; have := hS.1; omega, fun x h1 h2 => (hold x (Nat.lt_of_lt_of_le h1 hS.1)).trans (hS.2.1 x h1 h2), hS.2.2⟩ F rfl X'
  refine ⟨t, step t ?_, b1⟩
  have e : T.heap.size = H.size := by rw [hT]
  rw [e]
  exact a1
end VGM
/-! ===== END ===== -/

/-! ===== BEGIN printed: names, fields, word lists, decode rows ===== -/
def RX0 : String := "DayBench$Calendars"
def TX0 : u_T := fun k => match k with
  | _ => ("", "", "", false)
def tyX0 : Nat → FieldType := fun k => match k with
  | _ => .int
abbrev wsX00 : List Cond := u_ws RX0 TX0 0
theorem nmX0 : ∀ a, a < 0 → ∀ b, b < 0 → a ≠ b → (TX0 a).2.1 ≠ (TX0 b).2.1 := by decide +kernel
theorem tyX0_ok : ∀ k, k < 0 → parseFieldDescriptor (TX0 k).2.2.1 = some (tyX0 k) := by decide +kernel
abbrev cX0_isCalendar : ByteArray := prog_2_method_2_code
def yX0_isCalendar : MethodName := ⟨RX0, "isCalendar", "(I)Z"⟩
abbrev cX0_isYear : ByteArray := prog_2_method_3_code
def yX0_isYear : MethodName := ⟨RX0, "isYear", "(II)Z"⟩
abbrev cX0_isMonth : ByteArray := prog_2_method_4_code
def yX0_isMonth : MethodName := ⟨RX0, "isMonth", "(III)Z"⟩
abbrev cX0_months : ByteArray := prog_2_method_5_code
def yX0_months : MethodName := ⟨RX0, "months", "(I)I"⟩
abbrev cX0_isLeap : ByteArray := prog_2_method_6_code
def yX0_isLeap : MethodName := ⟨RX0, "isLeap", "(II)Z"⟩
abbrev cX0_monthDays : ByteArray := prog_2_method_7_code
def yX0_monthDays : MethodName := ⟨RX0, "monthDays", "(III)I"⟩
abbrev cX0_yearStart : ByteArray := prog_2_method_8_code
def yX0_yearStart : MethodName := ⟨RX0, "yearStart", "(II)I"⟩
abbrev cX0_monthStart : ByteArray := prog_2_method_9_code
def yX0_monthStart : MethodName := ⟨RX0, "monthStart", "(III)I"⟩
abbrev cX0_dayOf : ByteArray := prog_2_method_10_code
def yX0_dayOf : MethodName := ⟨RX0, "dayOf", "(IIII)I"⟩
abbrev cX0_yearOf : ByteArray := prog_2_method_11_code
def yX0_yearOf : MethodName := ⟨RX0, "yearOf", "(II)I"⟩
abbrev cX0_partOf : ByteArray := prog_2_method_12_code
def yX0_partOf : MethodName := ⟨RX0, "partOf", "(III)I"⟩
abbrev cX0_yearsBehind : ByteArray := prog_2_method_13_code
def yX0_yearsBehind : MethodName := ⟨RX0, "yearsBehind", "(III)I"⟩
def RX1 : String := "DayBench$Saying"
def TX1 : u_T := fun k => match k with
  | 0 => ("DayBench$Saying", "spans", "LDayBench$Spans;", true)
  | 1 => ("DayBench$Saying", "event", "I", false)
  | 2 => ("DayBench$Saying", "what", "I", false)
  | 3 => ("DayBench$Saying", "weight", "I", false)
  | 4 => ("DayBench$Saying", "taken", "Z", false)
  | 5 => ("DayBench$Saying", "copyOf", "I", false)
  | 6 => ("DayBench$Saying", "leastBehind", "I", false)
  | 7 => ("DayBench$Saying", "mostBehind", "I", false)
  | _ => ("DayBench$Saying", "behindEvent", "I", false)
def tyX1 : Nat → FieldType := fun k => match k with
  | 0 => .object "DayBench$Spans"
  | 1 => .int
  | 2 => .int
  | 3 => .int
  | 4 => .boolean
  | 5 => .int
  | 6 => .int
  | 7 => .int
  | _ => .int
abbrev wsX10 : List Cond := u_ws RX1 TX1 9
theorem nmX1 : ∀ a, a < 9 → ∀ b, b < 9 → a ≠ b → (TX1 a).2.1 ≠ (TX1 b).2.1 := by decide +kernel
theorem tyX1_ok : ∀ k, k < 9 → parseFieldDescriptor (TX1 k).2.2.1 = some (tyX1 k) := by decide +kernel
abbrev cX1_init : ByteArray := prog_3_method_1_code
def yX1_init : MethodName := ⟨RX1, "<init>", "()V"⟩
abbrev cX1_begin : ByteArray := prog_3_method_2_code
def yX1_begin : MethodName := ⟨RX1, "begin", "(III)V"⟩
abbrev cX1_setBehind : ByteArray := prog_3_method_3_code
def yX1_setBehind : MethodName := ⟨RX1, "setBehind", "(III)V"⟩
def RX2 : String := "DayBench$Search"
def TX2 : u_T := fun k => match k with
  | 0 => ("DayBench$Search", "earliest", "[I", true)
  | 1 => ("DayBench$Search", "latest", "[I", true)
  | 2 => ("DayBench$Search", "looks", "I", false)
  | 3 => ("DayBench$Search", "events", "I", false)
  | 4 => ("DayBench$Search", "spent", "Z", false)
  | 5 => ("DayBench$Search", "found", "Z", false)
  | 6 => ("DayBench$Search", "tillOne", "Z", false)
  | 7 => ("DayBench$Search", "together", "Z", false)
  | 8 => ("DayBench$Search", "spans", "[LDayBench$Spans;", true)
  | 9 => ("DayBench$Search", "spare", "LDayBench$Spans;", false)
  | 10 => ("DayBench$Search", "findSpan", "LDayBench$Spans;", true)
  | 11 => ("DayBench$Search", "apart", "[[I", true)
  | 12 => ("DayBench$Search", "low", "[[I", true)
  | _ => ("DayBench$Search", "high", "[[I", true)
def tyX2 : Nat → FieldType := fun k => match k with
  | 0 => .array .int
  | 1 => .array .int
  | 2 => .int
  | 3 => .int
  | 4 => .boolean
  | 5 => .boolean
  | 6 => .boolean
  | 7 => .boolean
  | 8 => .array (.object "DayBench$Spans")
  | 9 => .object "DayBench$Spans"
  | 10 => .object "DayBench$Spans"
  | 11 => .array (.array .int)
  | 12 => .array (.array .int)
  | _ => .array (.array .int)
abbrev wsX20 : List Cond := u_ws RX2 TX2 14
theorem nmX2 : ∀ a, a < 14 → ∀ b, b < 14 → a ≠ b → (TX2 a).2.1 ≠ (TX2 b).2.1 := by decide +kernel
theorem tyX2_ok : ∀ k, k < 14 → parseFieldDescriptor (TX2 k).2.2.1 = some (tyX2 k) := by decide +kernel
abbrev cX2_init : ByteArray := prog_4_method_1_code
def yX2_init : MethodName := ⟨RX2, "<init>", "()V"⟩
abbrev cX2_begin : ByteArray := prog_4_method_2_code
def yX2_begin : MethodName := ⟨RX2, "begin", "(I)V"⟩
abbrev cX2_lay : ByteArray := prog_4_method_3_code
def yX2_lay : MethodName := ⟨RX2, "lay", "([LDayBench$Saying;I)V"⟩
abbrev cX2_clearTable : ByteArray := prog_4_method_4_code
def yX2_clearTable : MethodName := ⟨RX2, "clearTable", "()V"⟩
abbrev cX2_layBehind : ByteArray := prog_4_method_5_code
def yX2_layBehind : MethodName := ⟨RX2, "layBehind", "(LDayBench$Saying;)V"⟩
abbrev cX2_keepCommon : ByteArray := prog_4_method_6_code
def yX2_keepCommon : MethodName := ⟨RX2, "keepCommon", "(ILDayBench$Spans;)V"⟩
abbrev cX2_find : ByteArray := prog_4_method_7_code
def yX2_find : MethodName := ⟨RX2, "find", "(II)V"⟩
abbrev cX2_closeApart : ByteArray := prog_4_method_8_code
def yX2_closeApart : MethodName := ⟨RX2, "closeApart", "()Z"⟩
abbrev cX2_boundDays : ByteArray := prog_4_method_9_code
def yX2_boundDays : MethodName := ⟨RX2, "boundDays", "()V"⟩
abbrev cX2_run : ByteArray := prog_4_method_10_code
def yX2_run : MethodName := ⟨RX2, "run", "(Z)I"⟩
abbrev cX2_takeSpans : ByteArray := prog_4_method_11_code
def yX2_takeSpans : MethodName := ⟨RX2, "takeSpans", "(I)V"⟩
abbrev cX2_narrow : ByteArray := prog_4_method_12_code
def yX2_narrow : MethodName := ⟨RX2, "narrow", "(III)Z"⟩
abbrev cX2_noteWay : ByteArray := prog_4_method_13_code
def yX2_noteWay : MethodName := ⟨RX2, "noteWay", "()V"⟩
def RX3 : String := "DayBench$SlipSets"
def TX3 : u_T := fun k => match k with
  | 0 => ("DayBench$SlipSets", "groups", "I", false)
  | 1 => ("DayBench$SlipSets", "least", "I", false)
  | 2 => ("DayBench$SlipSets", "told", "I", false)
  | 3 => ("DayBench$SlipSets", "toldSets", "[I", true)
  | 4 => ("DayBench$SlipSets", "root", "[I", true)
  | 5 => ("DayBench$SlipSets", "members", "[I", true)
  | 6 => ("DayBench$SlipSets", "weight", "[I", true)
  | 7 => ("DayBench$SlipSets", "lightest", "[I", true)
  | _ => ("DayBench$SlipSets", "size", "I", false)
def tyX3 : Nat → FieldType := fun k => match k with
  | 0 => .int
  | 1 => .int
  | 2 => .int
  | 3 => .array .int
  | 4 => .array .int
  | 5 => .array .int
  | 6 => .array .int
  | 7 => .array .int
  | _ => .int
abbrev wsX30 : List Cond := u_ws RX3 TX3 9
theorem nmX3 : ∀ a, a < 9 → ∀ b, b < 9 → a ≠ b → (TX3 a).2.1 ≠ (TX3 b).2.1 := by decide +kernel
theorem tyX3_ok : ∀ k, k < 9 → parseFieldDescriptor (TX3 k).2.2.1 = some (tyX3 k) := by decide +kernel
abbrev cX3_init : ByteArray := prog_5_method_1_code
def yX3_init : MethodName := ⟨RX3, "<init>", "()V"⟩
abbrev cX3_begin : ByteArray := prog_5_method_2_code
def yX3_begin : MethodName := ⟨RX3, "begin", "()V"⟩
abbrev cX3_addGroup : ByteArray := prog_5_method_3_code
def yX3_addGroup : MethodName := ⟨RX3, "addGroup", "(III)V"⟩
abbrev cX3_weightOf : ByteArray := prog_5_method_4_code
def yX3_weightOf : MethodName := ⟨RX3, "weightOf", "(I)I"⟩
abbrev cX3_sayingsOf : ByteArray := prog_5_method_5_code
def yX3_sayingsOf : MethodName := ⟨RX3, "sayingsOf", "(I)I"⟩
abbrev cX3_rootsOf : ByteArray := prog_5_method_6_code
def yX3_rootsOf : MethodName := ⟨RX3, "rootsOf", "(I)I"⟩
abbrev cX3_tooHeavy : ByteArray := prog_5_method_7_code
def yX3_tooHeavy : MethodName := ⟨RX3, "tooHeavy", "(I)Z"⟩
abbrev cX3_note : ByteArray := prog_5_method_8_code
def yX3_note : MethodName := ⟨RX3, "note", "(II)V"⟩
abbrev cX3_tell : ByteArray := prog_5_method_9_code
def yX3_tell : MethodName := ⟨RX3, "tell", "()V"⟩
def RX4 : String := "DayBench$Spans"
def TX4 : u_T := fun k => match k with
  | 0 => ("DayBench$Spans", "from", "[I", true)
  | 1 => ("DayBench$Spans", "to", "[I", true)
  | _ => ("DayBench$Spans", "size", "I", false)
def tyX4 : Nat → FieldType := fun k => match k with
  | 0 => .array .int
  | 1 => .array .int
  | _ => .int
abbrev wsX40 : List Cond := u_ws RX4 TX4 3
theorem nmX4 : ∀ a, a < 3 → ∀ b, b < 3 → a ≠ b → (TX4 a).2.1 ≠ (TX4 b).2.1 := by decide +kernel
theorem tyX4_ok : ∀ k, k < 3 → parseFieldDescriptor (TX4 k).2.2.1 = some (tyX4 k) := by decide +kernel
abbrev cX4_init : ByteArray := prog_6_method_1_code
def yX4_init : MethodName := ⟨RX4, "<init>", "()V"⟩
abbrev cX4_clear : ByteArray := prog_6_method_2_code
def yX4_clear : MethodName := ⟨RX4, "clear", "()V"⟩
abbrev cX4_has : ByteArray := prog_6_method_3_code
def yX4_has : MethodName := ⟨RX4, "has", "(I)Z"⟩
abbrev cX4_add : ByteArray := prog_6_method_4_code
def yX4_add : MethodName := ⟨RX4, "add", "(II)V"⟩
abbrev cX4_setToCommon : ByteArray := prog_6_method_5_code
def yX4_setToCommon : MethodName := ⟨RX4, "setToCommon", "(LDayBench$Spans;LDayBench$Spans;)V"⟩
def RX5 : String := "DayBench"
def TX5 : u_T := fun k => match k with
  | 0 => ("DayBench", "kingCalendar", "[I", true)
  | 1 => ("DayBench", "kingFrom", "[I", true)
  | 2 => ("DayBench", "kingTo", "[I", true)
  | 3 => ("DayBench", "kings", "I", false)
  | 4 => ("DayBench", "events", "I", false)
  | 5 => ("DayBench", "sayings", "[LDayBench$Saying;", true)
  | 6 => ("DayBench", "sayingsMade", "I", false)
  | 7 => ("DayBench", "search", "LDayBench$Search;", true)
  | 8 => ("DayBench", "slipSets", "LDayBench$SlipSets;", true)
  | 9 => ("DayBench", "heldFirst", "[I", true)
  | _ => ("DayBench", "heldLast", "[I", true)
def tyX5 : Nat → FieldType := fun k => match k with
  | 0 => .array .int
  | 1 => .array .int
  | 2 => .array .int
  | 3 => .int
  | 4 => .int
  | 5 => .array (.object "DayBench$Saying")
  | 6 => .int
  | 7 => .object "DayBench$Search"
  | 8 => .object "DayBench$SlipSets"
  | 9 => .array .int
  | _ => .array .int
abbrev wsX50 : List Cond := u_ws RX5 TX5 11
theorem nmX5 : ∀ a, a < 11 → ∀ b, b < 11 → a ≠ b → (TX5 a).2.1 ≠ (TX5 b).2.1 := by decide +kernel
theorem tyX5_ok : ∀ k, k < 11 → parseFieldDescriptor (TX5 k).2.2.1 = some (tyX5 k) := by decide +kernel
abbrev cX5_init : ByteArray := prog_1_method_1_code
def yX5_init : MethodName := ⟨RX5, "<init>", "()V"⟩
abbrev cX5_day : ByteArray := prog_1_method_2_code
def yX5_day : MethodName := ⟨RX5, "day", "(IIII)I"⟩
abbrev cX5_date : ByteArray := prog_1_method_3_code
def yX5_date : MethodName := ⟨RX5, "date", "(III)I"⟩
abbrev cX5_years : ByteArray := prog_1_method_4_code
def yX5_years : MethodName := ⟨RX5, "years", "(III)I"⟩
abbrev cX5_king : ByteArray := prog_1_method_5_code
def yX5_king : MethodName := ⟨RX5, "king", "(III)I"⟩
abbrev cX5_event : ByteArray := prog_1_method_6_code
def yX5_event : MethodName := ⟨RX5, "event", "()I"⟩
abbrev cX5_say : ByteArray := prog_1_method_7_code
def yX5_say : MethodName := ⟨RX5, "say", "(IIIIII)I"⟩
abbrev cX5_copy : ByteArray := prog_1_method_8_code
def yX5_copy : MethodName := ⟨RX5, "copy", "(II)Z"⟩
abbrev cX5_take : ByteArray := prog_1_method_9_code
def yX5_take : MethodName := ⟨RX5, "take", "(IZ)Z"⟩
abbrev cX5_look : ByteArray := prog_1_method_10_code
def yX5_look : MethodName := ⟨RX5, "look", "(II)I"⟩
abbrev cX5_span : ByteArray := prog_1_method_11_code
def yX5_span : MethodName := ⟨RX5, "span", "(IIZ)I"⟩
abbrev cX5_first : ByteArray := prog_1_method_12_code
def yX5_first : MethodName := ⟨RX5, "first", "(I)I"⟩
abbrev cX5_last : ByteArray := prog_1_method_13_code
def yX5_last : MethodName := ⟨RX5, "last", "(I)I"⟩
abbrev cX5_can : ByteArray := prog_1_method_14_code
def yX5_can : MethodName := ⟨RX5, "can", "(II)I"⟩
abbrev cX5_agrees : ByteArray := prog_1_method_15_code
def yX5_agrees : MethodName := ⟨RX5, "agrees", "()I"⟩
abbrev cX5_quarrel : ByteArray := prog_1_method_16_code
def yX5_quarrel : MethodName := ⟨RX5, "quarrel", "()I"⟩
abbrev cX5_slips : ByteArray := prog_1_method_17_code
def yX5_slips : MethodName := ⟨RX5, "slips", "()I"⟩
abbrev cX5_slipped : ByteArray := prog_1_method_18_code
def yX5_slipped : MethodName := ⟨RX5, "slipped", "(I)I"⟩
abbrev cX5_width : ByteArray := prog_1_method_19_code
def yX5_width : MethodName := ⟨RX5, "width", "(II)I"⟩
abbrev cX5_settles : ByteArray := prog_1_method_20_code
def yX5_settles : MethodName := ⟨RX5, "settles", "()I"⟩
abbrev cX5_count : ByteArray := prog_1_method_21_code
def yX5_count : MethodName := ⟨RX5, "count", "(I)I"⟩
abbrev cX5_isDay : ByteArray := prog_1_method_22_code
def yX5_isDay : MethodName := ⟨RX5, "isDay", "(I)Z"⟩
abbrev cX5_isRowOfDays : ByteArray := prog_1_method_23_code
def yX5_isRowOfDays : MethodName := ⟨RX5, "isRowOfDays", "(II)Z"⟩
abbrev cX5_isEvent : ByteArray := prog_1_method_24_code
def yX5_isEvent : MethodName := ⟨RX5, "isEvent", "(I)Z"⟩
abbrev cX5_isSaying : ByteArray := prog_1_method_25_code
def yX5_isSaying : MethodName := ⟨RX5, "isSaying", "(I)Z"⟩
abbrev cX5_isBehind : ByteArray := prog_1_method_26_code
def yX5_isBehind : MethodName := ⟨RX5, "isBehind", "(IIII)Z"⟩
abbrev cX5_fillSpans : ByteArray := prog_1_method_27_code
def yX5_fillSpans : MethodName := ⟨RX5, "fillSpans", "(LDayBench$Spans;IIII)V"⟩
abbrev cX5_addDate : ByteArray := prog_1_method_28_code
def yX5_addDate : MethodName := ⟨RX5, "addDate", "(LDayBench$Spans;III)V"⟩
abbrev cX5_addReign : ByteArray := prog_1_method_29_code
def yX5_addReign : MethodName := ⟨RX5, "addReign", "(LDayBench$Spans;II)V"⟩
abbrev cX5_rootOf : ByteArray := prog_1_method_30_code
def yX5_rootOf : MethodName := ⟨RX5, "rootOf", "(I)I"⟩
abbrev cX5_takenSet : ByteArray := prog_1_method_31_code
def yX5_takenSet : MethodName := ⟨RX5, "takenSet", "()I"⟩
abbrev cX5_askSet : ByteArray := prog_1_method_32_code
def yX5_askSet : MethodName := ⟨RX5, "askSet", "(I)I"⟩
abbrev cX5_askAllWays : ByteArray := prog_1_method_33_code
def yX5_askAllWays : MethodName := ⟨RX5, "askAllWays", "(I)I"⟩
abbrev cX5_askWidth : ByteArray := prog_1_method_34_code
def yX5_askWidth : MethodName := ⟨RX5, "askWidth", "(II)I"⟩
abbrev cX5_greaterWidth : ByteArray := prog_1_method_35_code
def yX5_greaterWidth : MethodName := ⟨RX5, "greaterWidth", "(I)I"⟩
abbrev cX5_quarrelWith : ByteArray := prog_1_method_36_code
def yX5_quarrelWith : MethodName := ⟨RX5, "quarrelWith", "(IIII)I"⟩
abbrev cX5_gatherGroups : ByteArray := prog_1_method_37_code
def yX5_gatherGroups : MethodName := ⟨RX5, "gatherGroups", "(I)V"⟩
def RX6 : String := "DayBenchModel"
def TX6 : u_T := fun k => match k with
  | 0 => ("DayBenchModel", "thrown", "I", false)
  | 1 => ("DayBenchModel", "foundYear", "I", false)
  | 2 => ("DayBenchModel", "foundMonth", "I", false)
  | 3 => ("DayBenchModel", "foundDay", "I", false)
  | 4 => ("DayBenchModel", "kingCalendar", "[I", true)
  | 5 => ("DayBenchModel", "kingFrom", "[I", true)
  | 6 => ("DayBenchModel", "kingTo", "[I", true)
  | 7 => ("DayBenchModel", "kings", "I", false)
  | 8 => ("DayBenchModel", "events", "I", false)
  | 9 => ("DayBenchModel", "sayEvent", "[I", true)
  | 10 => ("DayBenchModel", "sayWhat", "[I", true)
  | 11 => ("DayBenchModel", "sayA", "[I", true)
  | 12 => ("DayBenchModel", "sayB", "[I", true)
  | 13 => ("DayBenchModel", "sayC", "[I", true)
  | 14 => ("DayBenchModel", "sayWeight", "[I", true)
  | 15 => ("DayBenchModel", "copyOf", "[I", true)
  | 16 => ("DayBenchModel", "isTaken", "[Z", true)
  | 17 => ("DayBenchModel", "sayings", "I", false)
  | 18 => ("DayBenchModel", "spanFrom", "[I", true)
  | 19 => ("DayBenchModel", "spanTo", "[I", true)
  | 20 => ("DayBenchModel", "spanMany", "[I", true)
  | 21 => ("DayBenchModel", "asked", "I", false)
  | 22 => ("DayBenchModel", "findEvent", "I", false)
  | 23 => ("DayBenchModel", "findDay", "I", false)
  | 24 => ("DayBenchModel", "eventFrom", "[I", true)
  | 25 => ("DayBenchModel", "eventTo", "[I", true)
  | 26 => ("DayBenchModel", "eventMany", "[I", true)
  | 27 => ("DayBenchModel", "looks", "I", false)
  | 28 => ("DayBenchModel", "isSpent", "Z", false)
  | 29 => ("DayBenchModel", "newFrom", "[I", true)
  | 30 => ("DayBenchModel", "newTo", "[I", true)
  | 31 => ("DayBenchModel", "low", "[I", true)
  | 32 => ("DayBenchModel", "high", "[I", true)
  | 33 => ("DayBenchModel", "took", "[I", true)
  | 34 => ("DayBenchModel", "first", "[I", true)
  | 35 => ("DayBenchModel", "last", "[I", true)
  | 36 => ("DayBenchModel", "hasWay", "Z", false)
  | 37 => ("DayBenchModel", "slipSets", "[I", true)
  | 38 => ("DayBenchModel", "slipMany", "I", false)
  | 39 => ("DayBenchModel", "newSets", "[I", true)
  | 40 => ("DayBenchModel", "roots", "[I", true)
  | 41 => ("DayBenchModel", "ownFirst", "[I", true)
  | _ => ("DayBenchModel", "ownLast", "[I", true)
def tyX6 : Nat → FieldType := fun k => match k with
  | 0 => .int
  | 1 => .int
  | 2 => .int
  | 3 => .int
  | 4 => .array .int
  | 5 => .array .int
  | 6 => .array .int
  | 7 => .int
  | 8 => .int
  | 9 => .array .int
  | 10 => .array .int
  | 11 => .array .int
  | 12 => .array .int
  | 13 => .array .int
  | 14 => .array .int
  | 15 => .array .int
  | 16 => .array .boolean
  | 17 => .int
  | 18 => .array .int
  | 19 => .array .int
  | 20 => .array .int
  | 21 => .int
  | 22 => .int
  | 23 => .int
  | 24 => .array .int
  | 25 => .array .int
  | 26 => .array .int
  | 27 => .int
  | 28 => .boolean
  | 29 => .array .int
  | 30 => .array .int
  | 31 => .array .int
  | 32 => .array .int
  | 33 => .array .int
  | 34 => .array .int
  | 35 => .array .int
  | 36 => .boolean
  | 37 => .array .int
  | 38 => .int
  | 39 => .array .int
  | 40 => .array .int
  | 41 => .array .int
  | _ => .array .int
abbrev wsX60 : List Cond := u_ws RX6 TX6 43
theorem nmX6 : ∀ a, a < 43 → ∀ b, b < 43 → a ≠ b → (TX6 a).2.1 ≠ (TX6 b).2.1 := by decide +kernel
theorem tyX6_ok : ∀ k, k < 43 → parseFieldDescriptor (TX6 k).2.2.1 = some (tyX6 k) := by decide +kernel
abbrev cX6_init : ByteArray := prog_8_method_1_code
def yX6_init : MethodName := ⟨RX6, "<init>", "()V"⟩
abbrev cX6_isLeap : ByteArray := prog_8_method_3_code
def yX6_isLeap : MethodName := ⟨RX6, "isLeap", "(II)Z"⟩
abbrev cX6_lengthOf : ByteArray := prog_8_method_4_code
def yX6_lengthOf : MethodName := ⟨RX6, "lengthOf", "(III)I"⟩
abbrev cX6_monthsOf : ByteArray := prog_8_method_5_code
def yX6_monthsOf : MethodName := ⟨RX6, "monthsOf", "(I)I"⟩
abbrev cX6_yearFrom : ByteArray := prog_8_method_6_code
def yX6_yearFrom : MethodName := ⟨RX6, "yearFrom", "(II)I"⟩
abbrev cX6_dayOf : ByteArray := prog_8_method_7_code
def yX6_dayOf : MethodName := ⟨RX6, "dayOf", "(IIII)I"⟩
abbrev cX6_isDay : ByteArray := prog_8_method_8_code
def yX6_isDay : MethodName := ⟨RX6, "isDay", "(I)Z"⟩
abbrev cX6_day : ByteArray := prog_8_method_9_code
def yX6_day : MethodName := ⟨RX6, "day", "(IIII)I"⟩
abbrev cX6_finds : ByteArray := prog_8_method_10_code
def yX6_finds : MethodName := ⟨RX6, "finds", "(II)Z"⟩
abbrev cX6_date : ByteArray := prog_8_method_11_code
def yX6_date : MethodName := ⟨RX6, "date", "(III)I"⟩
abbrev cX6_behind : ByteArray := prog_8_method_12_code
def yX6_behind : MethodName := ⟨RX6, "behind", "(III)I"⟩
abbrev cX6_years : ByteArray := prog_8_method_13_code
def yX6_years : MethodName := ⟨RX6, "years", "(III)I"⟩
abbrev cX6_king : ByteArray := prog_8_method_14_code
def yX6_king : MethodName := ⟨RX6, "king", "(III)I"⟩
abbrev cX6_event : ByteArray := prog_8_method_15_code
def yX6_event : MethodName := ⟨RX6, "event", "()I"⟩
abbrev cX6_lays : ByteArray := prog_8_method_16_code
def yX6_lays : MethodName := ⟨RX6, "lays", "(II)V"⟩
abbrev cX6_isYear : ByteArray := prog_8_method_17_code
def yX6_isYear : MethodName := ⟨RX6, "isYear", "(II)Z"⟩
abbrev cX6_spans : ByteArray := prog_8_method_18_code
def yX6_spans : MethodName := ⟨RX6, "spans", "(IIII)Z"⟩
abbrev cX6_reign : ByteArray := prog_8_method_19_code
def yX6_reign : MethodName := ⟨RX6, "reign", "(II)V"⟩
abbrev cX6_canSay : ByteArray := prog_8_method_20_code
def yX6_canSay : MethodName := ⟨RX6, "canSay", "(IIIII)Z"⟩
abbrev cX6_say : ByteArray := prog_8_method_21_code
def yX6_say : MethodName := ⟨RX6, "say", "(IIIIII)I"⟩
abbrev cX6_isSaying : ByteArray := prog_8_method_22_code
def yX6_isSaying : MethodName := ⟨RX6, "isSaying", "(I)Z"⟩
abbrev cX6_copy : ByteArray := prog_8_method_23_code
def yX6_copy : MethodName := ⟨RX6, "copy", "(II)Z"⟩
abbrev cX6_take : ByteArray := prog_8_method_24_code
def yX6_take : MethodName := ⟨RX6, "take", "(IZ)Z"⟩
abbrev cX6_rootOf : ByteArray := prog_8_method_25_code
def yX6_rootOf : MethodName := ⟨RX6, "rootOf", "(I)I"⟩
abbrev cX6_look : ByteArray := prog_8_method_26_code
def yX6_look : MethodName := ⟨RX6, "look", "(II)I"⟩
abbrev cX6_span : ByteArray := prog_8_method_27_code
def yX6_span : MethodName := ⟨RX6, "span", "(IIZ)I"⟩
abbrev cX6_isAsked : ByteArray := prog_8_method_28_code
def yX6_isAsked : MethodName := ⟨RX6, "isAsked", "(I)Z"⟩
abbrev cX6_takenAll : ByteArray := prog_8_method_29_code
def yX6_takenAll : MethodName := ⟨RX6, "takenAll", "()I"⟩
abbrev cX6_eventSpans : ByteArray := prog_8_method_30_code
def yX6_eventSpans : MethodName := ⟨RX6, "eventSpans", "()V"⟩
abbrev cX6_cutsDown : ByteArray := prog_8_method_31_code
def yX6_cutsDown : MethodName := ⟨RX6, "cutsDown", "(II)V"⟩
abbrev cX6_toFind : ByteArray := prog_8_method_32_code
def yX6_toFind : MethodName := ⟨RX6, "toFind", "(I)V"⟩
abbrev cX6_canBe : ByteArray := prog_8_method_33_code
def yX6_canBe : MethodName := ⟨RX6, "canBe", "(I)Z"⟩
abbrev cX6_narrows : ByteArray := prog_8_method_34_code
def yX6_narrows : MethodName := ⟨RX6, "narrows", "(IIII)Z"⟩
abbrev cX6_walks : ByteArray := prog_8_method_35_code
def yX6_walks : MethodName := ⟨RX6, "walks", "(Z)V"⟩
abbrev cX6_widens : ByteArray := prog_8_method_36_code
def yX6_widens : MethodName := ⟨RX6, "widens", "()V"⟩
abbrev cX6_begins : ByteArray := prog_8_method_37_code
def yX6_begins : MethodName := ⟨RX6, "begins", "(I)V"⟩
abbrev cX6_isEvent : ByteArray := prog_8_method_38_code
def yX6_isEvent : MethodName := ⟨RX6, "isEvent", "(I)Z"⟩
abbrev cX6_first : ByteArray := prog_8_method_39_code
def yX6_first : MethodName := ⟨RX6, "first", "(I)I"⟩
abbrev cX6_last : ByteArray := prog_8_method_40_code
def yX6_last : MethodName := ⟨RX6, "last", "(I)I"⟩
abbrev cX6_can : ByteArray := prog_8_method_41_code
def yX6_can : MethodName := ⟨RX6, "can", "(II)I"⟩
abbrev cX6_agrees : ByteArray := prog_8_method_42_code
def yX6_agrees : MethodName := ⟨RX6, "agrees", "()I"⟩
abbrev cX6_bitsOf : ByteArray := prog_8_method_43_code
def yX6_bitsOf : MethodName := ⟨RX6, "bitsOf", "(I)I"⟩
abbrev cX6_isAhead : ByteArray := prog_8_method_44_code
def yX6_isAhead : MethodName := ⟨RX6, "isAhead", "(II)Z"⟩
abbrev cX6_quarrel : ByteArray := prog_8_method_45_code
def yX6_quarrel : MethodName := ⟨RX6, "quarrel", "()I"⟩
abbrev cX6_nextOf : ByteArray := prog_8_method_46_code
def yX6_nextOf : MethodName := ⟨RX6, "nextOf", "(III)I"⟩
abbrev cX6_rootsTaken : ByteArray := prog_8_method_47_code
def yX6_rootsTaken : MethodName := ⟨RX6, "rootsTaken", "()I"⟩
abbrev cX6_slips : ByteArray := prog_8_method_48_code
def yX6_slips : MethodName := ⟨RX6, "slips", "()I"⟩
abbrev cX6_without : ByteArray := prog_8_method_49_code
def yX6_without : MethodName := ⟨RX6, "without", "(I)I"⟩
abbrev cX6_slipped : ByteArray := prog_8_method_50_code
def yX6_slipped : MethodName := ⟨RX6, "slipped", "(I)I"⟩
abbrev cX6_widthOf : ByteArray := prog_8_method_51_code
def yX6_widthOf : MethodName := ⟨RX6, "widthOf", "(II)I"⟩
abbrev cX6_width : ByteArray := prog_8_method_52_code
def yX6_width : MethodName := ⟨RX6, "width", "(II)I"⟩
abbrev cX6_settles : ByteArray := prog_8_method_53_code
def yX6_settles : MethodName := ⟨RX6, "settles", "()I"⟩
abbrev cX6_count : ByteArray := prog_8_method_54_code
def yX6_count : MethodName := ⟨RX6, "count", "(I)I"⟩
def RJ9 : String := "java/lang/Math"
def TJ9 : u_T := fun k => match k with
  | _ => ("", "", "", false)
def tyJ9 : Nat → FieldType := fun k => match k with
  | _ => .int
abbrev wsJ90 : List Cond := u_ws RJ9 TJ9 0
theorem nmJ9 : ∀ a, a < 0 → ∀ b, b < 0 → a ≠ b → (TJ9 a).2.1 ≠ (TJ9 b).2.1 := by decide +kernel
theorem tyJ9_ok : ∀ k, k < 0 → parseFieldDescriptor (TJ9 k).2.2.1 = some (tyJ9 k) := by decide +kernel
abbrev cJ9_max_7cf53 : ByteArray := prog_9_method_65_code
def yJ9_max_7cf53 : MethodName := ⟨RJ9, "max", "(II)I"⟩
abbrev cJ9_min_7cf53 : ByteArray := prog_9_method_69_code
def yJ9_min_7cf53 : MethodName := ⟨RJ9, "min", "(II)I"⟩
def RJ10 : String := "java/lang/System"
def TJ10 : u_T := fun k => match k with
  | _ => ("", "", "", false)
def tyJ10 : Nat → FieldType := fun k => match k with
  | _ => .int
abbrev wsJ100 : List Cond := u_ws RJ10 TJ10 0
theorem nmJ10 : ∀ a, a < 0 → ∀ b, b < 0 → a ≠ b → (TJ10 a).2.1 ≠ (TJ10 b).2.1 := by decide +kernel
theorem tyJ10_ok : ∀ k, k < 0 → parseFieldDescriptor (TJ10 k).2.2.1 = some (tyJ10 k) := by decide +kernel
def RL : String := "DayBenchLaw"
abbrev cL_law : ByteArray := code
def yL_law : MethodName := ⟨RL, "law", "([I)Z"⟩
def wsX0_isCalendar : List Cond := .code yX0_isCalendar cX0_isCalendar 1 (some .boolean) :: ([])
def wsX0_isYear : List Cond := .code yX0_isYear cX0_isYear 2 (some .boolean) :: ([.methodLink RX0 11 yX0_isCalendar, .static yX0_isCalendar, .initialized RX0, .code yX0_isCalendar cX0_isCalendar 1 (some .boolean)])
def wsX0_months : List Cond := .code yX0_months cX0_months 1 (some .int) :: ([])
def wsX0_isMonth : List Cond := .code yX0_isMonth cX0_isMonth 3 (some .boolean) :: ([.methodLink RX0 15 yX0_isYear, .static yX0_isYear, .initialized RX0, .code yX0_isYear cX0_isYear 2 (some .boolean), .methodLink RX0 11 yX0_isCalendar, .static yX0_isCalendar, .code yX0_isCalendar cX0_isCalendar 1 (some .boolean), .methodLink RX0 19 yX0_months, .static yX0_months, .code yX0_months cX0_months 1 (some .int)])
def wsX0_isLeap : List Cond := .code yX0_isLeap cX0_isLeap 2 (some .boolean) :: ([])
def wsX0_monthDays : List Cond := .code yX0_monthDays cX0_monthDays 3 (some .int) :: ([.fieldLink RX0 23 "DayBench$Calendars" "MONTH_DAYS" "[I", .methodLink RX0 27 yX0_isLeap, .static yX0_isLeap, .initialized RX0, .code yX0_isLeap cX0_isLeap 2 (some .boolean)])
def wsX0_yearStart : List Cond := .code yX0_yearStart cX0_yearStart 4 (some .int) :: ([])
def wsX0_monthStart : List Cond := .code yX0_monthStart cX0_monthStart 5 (some .int) :: ([.methodLink RX0 30 yX0_yearStart, .static yX0_yearStart, .initialized RX0, .code yX0_yearStart cX0_yearStart 4 (some .int), .methodLink RX0 34 yX0_monthDays, .static yX0_monthDays, .code yX0_monthDays cX0_monthDays 3 (some .int), .fieldLink RX0 23 "DayBench$Calendars" "MONTH_DAYS" "[I", .methodLink RX0 27 yX0_isLeap, .static yX0_isLeap, .code yX0_isLeap cX0_isLeap 2 (some .boolean)])
def wsX5_isDay : List Cond := .code yX5_isDay cX5_isDay 1 (some .boolean) :: ([.constant RX5 225 (985999)])
def wsX0_dayOf_r1 : List Cond := [Cond.methodLink RX0 38 yX0_isMonth, Cond.static yX0_isMonth, Cond.initialized RX0, Cond.code yX0_isMonth cX0_isMonth 3 (some .boolean), Cond.methodLink RX0 15 yX0_isYear, Cond.static yX0_isYear, Cond.code yX0_isYear cX0_isYear 2 (some .boolean), Cond.methodLink RX0 11 yX0_isCalendar, Cond.static yX0_isCalendar, Cond.code yX0_isCalendar cX0_isCalendar 1 (some .boolean), Cond.methodLink RX0 19 yX0_months, Cond.static yX0_months, Cond.code yX0_months cX0_months 1 (some .int), Cond.methodLink RX0 34 yX0_monthDays, Cond.static yX0_monthDays, Cond.code yX0_monthDays cX0_monthDays 3 (some .int), Cond.fieldLink RX0 23 "DayBench$Calendars" "MONTH_DAYS" "[I", Cond.methodLink RX0 27 yX0_isLeap, Cond.static yX0_isLeap, Cond.code yX0_isLeap cX0_isLeap 2 (some .boolean), Cond.methodLink RX0 42 yX0_monthStart, Cond.static yX0_monthStart, Cond.code yX0_monthStart cX0_monthStart 5 (some .int), Cond.methodLink RX0 30 yX0_yearStart]
def wsX0_dayOf_r2 : List Cond := [Cond.static yX0_yearStart, Cond.code yX0_yearStart cX0_yearStart 4 (some .int), Cond.static yX5_isDay, Cond.initialized RX5, Cond.code yX5_isDay cX5_isDay 1 (some .boolean), Cond.constant RX5 225 (985999)]
def wsX0_dayOf : List Cond := .code yX0_dayOf cX0_dayOf 5 (some .int) :: ((wsX0_dayOf_r1 ++ wsX0_dayOf_r2))
def wsX0_yearOf : List Cond := .code yX0_yearOf cX0_yearOf 3 (some .int) :: ([.methodLink RX0 30 yX0_yearStart, .static yX0_yearStart, .initialized RX0, .code yX0_yearStart cX0_yearStart 4 (some .int)])
def wsX0_partOf : List Cond := .code yX0_partOf cX0_partOf 6 (some .int) :: ([.methodLink RX0 11 yX0_isCalendar, .static yX0_isCalendar, .initialized RX0, .code yX0_isCalendar cX0_isCalendar 1 (some .boolean), .static yX5_isDay, .initialized RX5, .code yX5_isDay cX5_isDay 1 (some .boolean), .constant RX5 225 (985999), .methodLink RX0 48 yX0_yearOf, .static yX0_yearOf, .code yX0_yearOf cX0_yearOf 3 (some .int), .methodLink RX0 30 yX0_yearStart, .static yX0_yearStart, .code yX0_yearStart cX0_yearStart 4 (some .int), .methodLink RX0 19 yX0_months, .static yX0_months, .code yX0_months cX0_months 1 (some .int), .methodLink RX0 34 yX0_monthDays, .static yX0_monthDays, .code yX0_monthDays cX0_monthDays 3 (some .int), .fieldLink RX0 23 "DayBench$Calendars" "MONTH_DAYS" "[I", .methodLink RX0 27 yX0_isLeap, .static yX0_isLeap, .code yX0_isLeap cX0_isLeap 2 (some .boolean)])
def wsX0_yearsBehind_r1 : List Cond := [Cond.methodLink RX0 51 yX0_partOf, Cond.static yX0_partOf, Cond.initialized RX0, Cond.code yX0_partOf cX0_partOf 6 (some .int), Cond.methodLink RX0 11 yX0_isCalendar, Cond.static yX0_isCalendar, Cond.code yX0_isCalendar cX0_isCalendar 1 (some .boolean), Cond.static yX5_isDay, Cond.initialized RX5, Cond.code yX5_isDay cX5_isDay 1 (some .boolean), Cond.constant RX5 225 (985999), Cond.methodLink RX0 48 yX0_yearOf, Cond.static yX0_yearOf, Cond.code yX0_yearOf cX0_yearOf 3 (some .int), Cond.methodLink RX0 30 yX0_yearStart, Cond.static yX0_yearStart, Cond.code yX0_yearStart cX0_yearStart 4 (some .int), Cond.methodLink RX0 19 yX0_months, Cond.static yX0_months, Cond.code yX0_months cX0_months 1 (some .int), Cond.methodLink RX0 34 yX0_monthDays, Cond.static yX0_monthDays, Cond.code yX0_monthDays cX0_monthDays 3 (some .int), Cond.fieldLink RX0 23 "DayBench$Calendars" "MONTH_DAYS" "[I"]
def wsX0_yearsBehind_r2 : List Cond := [Cond.methodLink RX0 27 yX0_isLeap, Cond.static yX0_isLeap, Cond.code yX0_isLeap cX0_isLeap 2 (some .boolean), Cond.methodLink RX0 54 yX0_dayOf, Cond.static yX0_dayOf, Cond.code yX0_dayOf cX0_dayOf 5 (some .int), Cond.methodLink RX0 38 yX0_isMonth, Cond.static yX0_isMonth, Cond.code yX0_isMonth cX0_isMonth 3 (some .boolean), Cond.methodLink RX0 15 yX0_isYear, Cond.static yX0_isYear, Cond.code yX0_isYear cX0_isYear 2 (some .boolean), Cond.methodLink RX0 42 yX0_monthStart, Cond.static yX0_monthStart, Cond.code yX0_monthStart cX0_monthStart 5 (some .int)]
def wsX0_yearsBehind : List Cond := .code yX0_yearsBehind cX0_yearsBehind 6 (some .int) :: ((wsX0_yearsBehind_r1 ++ wsX0_yearsBehind_r2))
def wsX4_init : List Cond := .code yX4_init cX4_init 1 none :: ([.methodLink RX4 3 objectInit, .instanceMethod objectInit, .code objectInit ⟨#[0xb1]⟩ 1 none, .arrayClass .int, .fieldLink RX4 9 "DayBench$Spans" "from" "[I", .fieldLink RX4 15 "DayBench$Spans" "to" "[I"] ++ wsX40)
def wsX1_init : List Cond := .code yX1_init cX1_init 1 none :: ([.methodLink RX1 3 objectInit, .instanceMethod objectInit, .code objectInit ⟨#[0xb1]⟩ 1 none, .classLink RX1 9 RX4, .instantiable RX4 3, .initialized RX4, .fieldLink RX1 12 "DayBench$Saying" "spans" "LDayBench$Spans;", .instanceMethod yX4_init, .code yX4_init cX4_init 1 none, .methodLink RX4 3 objectInit, .arrayClass .int, .fieldLink RX4 9 "DayBench$Spans" "from" "[I", .fieldLink RX4 15 "DayBench$Spans" "to" "[I"] ++ wsX40 ++ wsX10)
def wsX1_begin : List Cond := .code yX1_begin cX1_begin 4 none :: ([.fieldLink RX1 18 "DayBench$Saying" "event" "I", .fieldLink RX1 22 "DayBench$Saying" "what" "I", .fieldLink RX1 25 "DayBench$Saying" "weight" "I", .fieldLink RX1 28 "DayBench$Saying" "taken" "Z", .fieldLink RX1 32 "DayBench$Saying" "copyOf" "I"] ++ wsX10)
def wsX1_setBehind : List Cond := .code yX1_setBehind cX1_setBehind 4 none :: ([.fieldLink RX1 35 "DayBench$Saying" "leastBehind" "I", .fieldLink RX1 38 "DayBench$Saying" "mostBehind" "I", .fieldLink RX1 41 "DayBench$Saying" "behindEvent" "I"] ++ wsX10)
def wsX2_init : List Cond := .code yX2_init cX2_init 2 none :: ([.methodLink RX2 3 objectInit, .instanceMethod objectInit, .code objectInit ⟨#[0xb1]⟩ 1 none, .arrayClass .int, .fieldLink RX2 9 "DayBench$Search" "earliest" "[I", .fieldLink RX2 15 "DayBench$Search" "latest" "[I", .classLink RX2 18 RX4, .fieldLink RX2 20 "DayBench$Search" "spans" "[LDayBench$Spans;", .instantiable RX4 3, .initialized RX4, .fieldLink RX2 25 "DayBench$Search" "spare" "LDayBench$Spans;", .fieldLink RX2 29 "DayBench$Search" "findSpan" "LDayBench$Spans;", .classLink RX2 32 "[[I", .fieldLink RX2 34 "DayBench$Search" "apart" "[[I", .fieldLink RX2 37 "DayBench$Search" "low" "[[I", .fieldLink RX2 40 "DayBench$Search" "high" "[[I", .instanceMethod yX4_init, .code yX4_init cX4_init 1 none, .methodLink RX4 3 objectInit, .fieldLink RX4 9 "DayBench$Spans" "from" "[I", .fieldLink RX4 15 "DayBench$Spans" "to" "[I"] ++ wsX20 ++ wsX40)
def wsX2_begin : List Cond := .code yX2_begin cX2_begin 2 none :: ([.methodLink RX2 43 Lib.Math.min.name, .static Lib.Math.min.name, .initialized "java/lang/Math", .code Lib.Math.min.name Lib.Math.min.code 2 (some .int), .fieldLink RX2 49 "DayBench$Search" "events" "I", .fieldLink RX2 53 "DayBench$Search" "looks" "I", .fieldLink RX2 56 "DayBench$Search" "spent" "Z"] ++ wsX20)
def wsX4_clear : List Cond := .code yX4_clear cX4_clear 1 none :: ([.fieldLink RX4 18 "DayBench$Spans" "size" "I"] ++ wsX40)
def wsX4_add : List Cond := .code yX4_add cX4_add 5 none :: ([.methodLink RX4 22 Lib.Math.max.name, .static Lib.Math.max.name, .initialized "java/lang/Math", .code Lib.Math.max.name Lib.Math.max.code 2 (some .int), .constant RX4 28 (985999), .methodLink RX4 29 Lib.Math.min.name, .static Lib.Math.min.name, .code Lib.Math.min.name Lib.Math.min.code 2 (some .int), .fieldLink RX4 18 "DayBench$Spans" "size" "I", .fieldLink RX4 9 "DayBench$Spans" "from" "[I", .fieldLink RX4 15 "DayBench$Spans" "to" "[I"] ++ wsX40)
def wsX2_clearTable : List Cond := .code yX2_clearTable cX2_clearTable 3 none :: ([.fieldLink RX2 49 "DayBench$Search" "events" "I", .fieldLink RX2 20 "DayBench$Search" "spans" "[LDayBench$Spans;", .constant RX2 94 (985999), .fieldLink RX2 34 "DayBench$Search" "apart" "[[I", .methodLink RX2 91 yX4_clear, .instanceMethod yX4_clear, .selects RX4 yX4_clear yX4_clear, .initialized RX4, .code yX4_clear cX4_clear 1 none, .fieldLink RX4 18 "DayBench$Spans" "size" "I", .methodLink RX2 95 yX4_add, .instanceMethod yX4_add, .selects RX4 yX4_add yX4_add, .code yX4_add cX4_add 5 none, .methodLink RX4 22 Lib.Math.max.name, .static Lib.Math.max.name, .initialized "java/lang/Math", .code Lib.Math.max.name Lib.Math.max.code 2 (some .int), .constant RX4 28 (985999), .methodLink RX4 29 Lib.Math.min.name, .static Lib.Math.min.name, .code Lib.Math.min.name Lib.Math.min.code 2 (some .int), .fieldLink RX4 9 "DayBench$Spans" "from" "[I", .fieldLink RX4 15 "DayBench$Spans" "to" "[I"] ++ wsX20 ++ wsX40)
def wsX2_layBehind : List Cond := .code yX2_layBehind cX2_layBehind 4 none :: ([.fieldLink RX2 72 "DayBench$Saying" "event" "I", .fieldLink RX2 99 "DayBench$Saying" "behindEvent" "I", .fieldLink RX2 34 "DayBench$Search" "apart" "[[I", .fieldLink RX2 102 "DayBench$Saying" "mostBehind" "I", .methodLink RX2 43 Lib.Math.min.name, .static Lib.Math.min.name, .initialized "java/lang/Math", .code Lib.Math.min.name Lib.Math.min.code 2 (some .int), .fieldLink RX2 105 "DayBench$Saying" "leastBehind" "I"] ++ wsX10 ++ wsX20)
def wsX4_setToCommon : List Cond := .code yX4_setToCommon cX4_setToCommon 5 none :: ([.fieldLink RX4 18 "DayBench$Spans" "size" "I", .fieldLink RX4 9 "DayBench$Spans" "from" "[I", .methodLink RX4 22 Lib.Math.max.name, .static Lib.Math.max.name, .initialized "java/lang/Math", .code Lib.Math.max.name Lib.Math.max.code 2 (some .int), .fieldLink RX4 15 "DayBench$Spans" "to" "[I", .methodLink RX4 29 Lib.Math.min.name, .static Lib.Math.min.name, .code Lib.Math.min.name Lib.Math.min.code 2 (some .int), .methodLink RX4 32 yX4_clear, .instanceMethod yX4_clear, .selects RX4 yX4_clear yX4_clear, .initialized RX4, .code yX4_clear cX4_clear 1 none, .methodLink RX4 35 yX4_add, .instanceMethod yX4_add, .selects RX4 yX4_add yX4_add, .code yX4_add cX4_add 5 none, .constant RX4 28 (985999)] ++ wsX40)
def wsX2_keepCommon_r1 : List Cond := [Cond.fieldLink RX2 20 "DayBench$Search" "spans" "[LDayBench$Spans;", Cond.fieldLink RX2 25 "DayBench$Search" "spare" "LDayBench$Spans;", Cond.methodLink RX2 108 yX4_setToCommon, Cond.instanceMethod yX4_setToCommon, Cond.selects RX4 yX4_setToCommon yX4_setToCommon, Cond.initialized RX4, Cond.code yX4_setToCommon cX4_setToCommon 5 none, Cond.fieldLink RX4 18 "DayBench$Spans" "size" "I", Cond.fieldLink RX4 9 "DayBench$Spans" "from" "[I", Cond.methodLink RX4 22 Lib.Math.max.name, Cond.static Lib.Math.max.name, Cond.initialized "java/lang/Math", Cond.code Lib.Math.max.name Lib.Math.max.code 2 (some .int), Cond.fieldLink RX4 15 "DayBench$Spans" "to" "[I", Cond.methodLink RX4 29 Lib.Math.min.name, Cond.static Lib.Math.min.name, Cond.code Lib.Math.min.name Lib.Math.min.code 2 (some .int), Cond.methodLink RX4 32 yX4_clear, Cond.instanceMethod yX4_clear, Cond.selects RX4 yX4_clear yX4_clear, Cond.code yX4_clear cX4_clear 1 none, Cond.methodLink RX4 35 yX4_add, Cond.instanceMethod yX4_add, Cond.selects RX4 yX4_add yX4_add]
def wsX2_keepCommon_r2 : List Cond := [Cond.code yX4_add cX4_add 5 none, Cond.constant RX4 28 (985999)]
def wsX2_keepCommon : List Cond := .code yX2_keepCommon cX2_keepCommon 4 none :: ((wsX2_keepCommon_r1 ++ wsX2_keepCommon_r2) ++ wsX20 ++ wsX40)
def wsX2_closeApart : List Cond := .code yX2_closeApart cX2_closeApart 4 (some .boolean) :: ([.fieldLink RX2 49 "DayBench$Search" "events" "I", .fieldLink RX2 34 "DayBench$Search" "apart" "[[I", .methodLink RX2 43 Lib.Math.min.name, .static Lib.Math.min.name, .initialized "java/lang/Math", .code Lib.Math.min.name Lib.Math.min.code 2 (some .int)] ++ wsX20)
def wsX2_boundDays : List Cond := .code yX2_boundDays cX2_boundDays 3 none :: ([.fieldLink RX2 49 "DayBench$Search" "events" "I", .fieldLink RX2 37 "DayBench$Search" "low" "[[I", .fieldLink RX2 40 "DayBench$Search" "high" "[[I", .constant RX2 94 (985999), .fieldLink RX2 34 "DayBench$Search" "apart" "[[I", .methodLink RX2 112 Lib.Math.max.name, .static Lib.Math.max.name, .initialized "java/lang/Math", .code Lib.Math.max.name Lib.Math.max.code 2 (some .int), .methodLink RX2 43 Lib.Math.min.name, .static Lib.Math.min.name, .code Lib.Math.min.name Lib.Math.min.code 2 (some .int)] ++ wsX20)
def wsX2_lay_r1 : List Cond := [Cond.fieldLink RX2 63 "DayBench$Saying" "what" "I", Cond.fieldLink RX2 72 "DayBench$Saying" "event" "I", Cond.fieldLink RX2 75 "DayBench$Saying" "spans" "LDayBench$Spans;", Cond.fieldLink RX2 85 "DayBench$Search" "together" "Z", Cond.methodLink RX2 60 yX2_clearTable, Cond.instanceMethod yX2_clearTable, Cond.selects RX2 yX2_clearTable yX2_clearTable, Cond.initialized RX2, Cond.code yX2_clearTable cX2_clearTable 3 none, Cond.fieldLink RX2 49 "DayBench$Search" "events" "I", Cond.fieldLink RX2 20 "DayBench$Search" "spans" "[LDayBench$Spans;", Cond.constant RX2 94 (985999), Cond.fieldLink RX2 34 "DayBench$Search" "apart" "[[I", Cond.methodLink RX2 91 yX4_clear, Cond.instanceMethod yX4_clear, Cond.selects RX4 yX4_clear yX4_clear, Cond.initialized RX4, Cond.code yX4_clear cX4_clear 1 none, Cond.fieldLink RX4 18 "DayBench$Spans" "size" "I", Cond.methodLink RX2 95 yX4_add, Cond.instanceMethod yX4_add, Cond.selects RX4 yX4_add yX4_add, Cond.code yX4_add cX4_add 5 none, Cond.methodLink RX4 22 Lib.Math.max.name]
def wsX2_lay_r2 : List Cond := [Cond.static Lib.Math.max.name, Cond.initialized "java/lang/Math", Cond.code Lib.Math.max.name Lib.Math.max.code 2 (some .int), Cond.constant RX4 28 (985999), Cond.methodLink RX4 29 Lib.Math.min.name, Cond.static Lib.Math.min.name, Cond.code Lib.Math.min.name Lib.Math.min.code 2 (some .int), Cond.fieldLink RX4 9 "DayBench$Spans" "from" "[I", Cond.fieldLink RX4 15 "DayBench$Spans" "to" "[I", Cond.methodLink RX2 68 yX2_layBehind, Cond.instanceMethod yX2_layBehind, Cond.selects RX2 yX2_layBehind yX2_layBehind, Cond.code yX2_layBehind cX2_layBehind 4 none, Cond.fieldLink RX2 99 "DayBench$Saying" "behindEvent" "I", Cond.fieldLink RX2 102 "DayBench$Saying" "mostBehind" "I", Cond.methodLink RX2 43 Lib.Math.min.name, Cond.fieldLink RX2 105 "DayBench$Saying" "leastBehind" "I", Cond.methodLink RX2 77 yX2_keepCommon, Cond.instanceMethod yX2_keepCommon, Cond.selects RX2 yX2_keepCommon yX2_keepCommon, Cond.code yX2_keepCommon cX2_keepCommon 4 none, Cond.fieldLink RX2 25 "DayBench$Search" "spare" "LDayBench$Spans;", Cond.methodLink RX2 108 yX4_setToCommon, Cond.instanceMethod yX4_setToCommon]
def wsX2_lay_r3 : List Cond := [Cond.selects RX4 yX4_setToCommon yX4_setToCommon, Cond.code yX4_setToCommon cX4_setToCommon 5 none, Cond.methodLink RX4 32 yX4_clear, Cond.methodLink RX4 35 yX4_add, Cond.methodLink RX2 81 yX2_closeApart, Cond.instanceMethod yX2_closeApart, Cond.selects RX2 yX2_closeApart yX2_closeApart, Cond.code yX2_closeApart cX2_closeApart 4 (some .boolean), Cond.methodLink RX2 88 yX2_boundDays, Cond.instanceMethod yX2_boundDays, Cond.selects RX2 yX2_boundDays yX2_boundDays, Cond.code yX2_boundDays cX2_boundDays 3 none, Cond.fieldLink RX2 37 "DayBench$Search" "low" "[[I", Cond.fieldLink RX2 40 "DayBench$Search" "high" "[[I", Cond.methodLink RX2 112 Lib.Math.max.name]
def wsX2_lay : List Cond := .code yX2_lay cX2_lay 4 none :: ((wsX2_lay_r1 ++ (wsX2_lay_r2 ++ wsX2_lay_r3)) ++ wsX10 ++ wsX20 ++ wsX40)
def wsX2_find_r1 : List Cond := [Cond.fieldLink RX2 49 "DayBench$Search" "events" "I", Cond.fieldLink RX2 29 "DayBench$Search" "findSpan" "LDayBench$Spans;", Cond.methodLink RX2 91 yX4_clear, Cond.instanceMethod yX4_clear, Cond.selects RX4 yX4_clear yX4_clear, Cond.initialized RX4, Cond.code yX4_clear cX4_clear 1 none, Cond.fieldLink RX4 18 "DayBench$Spans" "size" "I", Cond.methodLink RX2 95 yX4_add, Cond.instanceMethod yX4_add, Cond.selects RX4 yX4_add yX4_add, Cond.code yX4_add cX4_add 5 none, Cond.methodLink RX4 22 Lib.Math.max.name, Cond.static Lib.Math.max.name, Cond.initialized "java/lang/Math", Cond.code Lib.Math.max.name Lib.Math.max.code 2 (some .int), Cond.constant RX4 28 (985999), Cond.methodLink RX4 29 Lib.Math.min.name, Cond.static Lib.Math.min.name, Cond.code Lib.Math.min.name Lib.Math.min.code 2 (some .int), Cond.fieldLink RX4 9 "DayBench$Spans" "from" "[I", Cond.fieldLink RX4 15 "DayBench$Spans" "to" "[I", Cond.methodLink RX2 77 yX2_keepCommon, Cond.instanceMethod yX2_keepCommon]
def wsX2_find_r2 : List Cond := [Cond.selects RX2 yX2_keepCommon yX2_keepCommon, Cond.initialized RX2, Cond.code yX2_keepCommon cX2_keepCommon 4 none, Cond.fieldLink RX2 20 "DayBench$Search" "spans" "[LDayBench$Spans;", Cond.fieldLink RX2 25 "DayBench$Search" "spare" "LDayBench$Spans;", Cond.methodLink RX2 108 yX4_setToCommon, Cond.instanceMethod yX4_setToCommon, Cond.selects RX4 yX4_setToCommon yX4_setToCommon, Cond.code yX4_setToCommon cX4_setToCommon 5 none, Cond.methodLink RX4 32 yX4_clear, Cond.methodLink RX4 35 yX4_add]
def wsX2_find : List Cond := .code yX2_find cX2_find 3 none :: ((wsX2_find_r1 ++ wsX2_find_r2) ++ wsX20 ++ wsX40)
def wsX2_noteWay : List Cond := .code yX2_noteWay cX2_noteWay 4 none :: ([.fieldLink RX2 49 "DayBench$Search" "events" "I", .fieldLink RX2 37 "DayBench$Search" "low" "[[I", .fieldLink RX2 40 "DayBench$Search" "high" "[[I", .fieldLink RX2 9 "DayBench$Search" "earliest" "[I", .fieldLink RX2 118 "DayBench$Search" "found" "Z", .methodLink RX2 43 Lib.Math.min.name, .static Lib.Math.min.name, .initialized "java/lang/Math", .code Lib.Math.min.name Lib.Math.min.code 2 (some .int), .fieldLink RX2 15 "DayBench$Search" "latest" "[I", .methodLink RX2 112 Lib.Math.max.name, .static Lib.Math.max.name, .code Lib.Math.max.name Lib.Math.max.code 2 (some .int)] ++ wsX20)
def wsX2_narrow : List Cond := .code yX2_narrow cX2_narrow 7 (some .boolean) :: ([.fieldLink RX2 37 "DayBench$Search" "low" "[[I", .methodLink RX2 112 Lib.Math.max.name, .static Lib.Math.max.name, .initialized "java/lang/Math", .code Lib.Math.max.name Lib.Math.max.code 2 (some .int), .fieldLink RX2 40 "DayBench$Search" "high" "[[I", .methodLink RX2 43 Lib.Math.min.name, .static Lib.Math.min.name, .code Lib.Math.min.name Lib.Math.min.code 2 (some .int), .fieldLink RX2 49 "DayBench$Search" "events" "I", .fieldLink RX2 34 "DayBench$Search" "apart" "[[I"] ++ wsX20)
def wsX2_takeSpans_r1 : List Cond := [Cond.fieldLink RX2 49 "DayBench$Search" "events" "I", Cond.fieldLink RX2 20 "DayBench$Search" "spans" "[LDayBench$Spans;", Cond.fieldLink RX2 128 "DayBench$Spans" "size" "I", Cond.fieldLink RX2 53 "DayBench$Search" "looks" "I", Cond.fieldLink RX2 56 "DayBench$Search" "spent" "Z", Cond.fieldLink RX2 85 "DayBench$Search" "together" "Z", Cond.fieldLink RX2 131 "DayBench$Spans" "from" "[I", Cond.fieldLink RX2 134 "DayBench$Spans" "to" "[I", Cond.fieldLink RX2 115 "DayBench$Search" "tillOne" "Z", Cond.fieldLink RX2 118 "DayBench$Search" "found" "Z", Cond.methodLink RX2 125 yX2_noteWay, Cond.instanceMethod yX2_noteWay, Cond.selects RX2 yX2_noteWay yX2_noteWay, Cond.initialized RX2, Cond.code yX2_noteWay cX2_noteWay 4 none, Cond.fieldLink RX2 37 "DayBench$Search" "low" "[[I", Cond.fieldLink RX2 40 "DayBench$Search" "high" "[[I", Cond.fieldLink RX2 9 "DayBench$Search" "earliest" "[I", Cond.methodLink RX2 43 Lib.Math.min.name, Cond.static Lib.Math.min.name, Cond.initialized "java/lang/Math", Cond.code Lib.Math.min.name Lib.Math.min.code 2 (some .int), Cond.fieldLink RX2 15 "DayBench$Search" "latest" "[I", Cond.methodLink RX2 112 Lib.Math.max.name]
def wsX2_takeSpans_r2 : List Cond := [Cond.static Lib.Math.max.name, Cond.code Lib.Math.max.name Lib.Math.max.code 2 (some .int), Cond.methodLink RX2 137 yX2_narrow, Cond.instanceMethod yX2_narrow, Cond.selects RX2 yX2_narrow yX2_narrow, Cond.code yX2_narrow cX2_narrow 7 (some .boolean), Cond.fieldLink RX2 34 "DayBench$Search" "apart" "[[I", Cond.methodLink RX2 121 yX2_takeSpans, Cond.instanceMethod yX2_takeSpans, Cond.selects RX2 yX2_takeSpans yX2_takeSpans]
def wsX2_takeSpans : List Cond := .code yX2_takeSpans cX2_takeSpans 3 none :: ((wsX2_takeSpans_r1 ++ wsX2_takeSpans_r2) ++ wsX20 ++ wsX40)
def wsX2_run_r1 : List Cond := [Cond.fieldLink RX2 115 "DayBench$Search" "tillOne" "Z", Cond.fieldLink RX2 118 "DayBench$Search" "found" "Z", Cond.fieldLink RX2 56 "DayBench$Search" "spent" "Z", Cond.methodLink RX2 121 yX2_takeSpans, Cond.instanceMethod yX2_takeSpans, Cond.selects RX2 yX2_takeSpans yX2_takeSpans, Cond.initialized RX2, Cond.code yX2_takeSpans cX2_takeSpans 3 none, Cond.fieldLink RX2 49 "DayBench$Search" "events" "I", Cond.fieldLink RX2 20 "DayBench$Search" "spans" "[LDayBench$Spans;", Cond.fieldLink RX2 128 "DayBench$Spans" "size" "I", Cond.fieldLink RX2 53 "DayBench$Search" "looks" "I", Cond.fieldLink RX2 85 "DayBench$Search" "together" "Z", Cond.fieldLink RX2 131 "DayBench$Spans" "from" "[I", Cond.fieldLink RX2 134 "DayBench$Spans" "to" "[I", Cond.methodLink RX2 125 yX2_noteWay, Cond.instanceMethod yX2_noteWay, Cond.selects RX2 yX2_noteWay yX2_noteWay, Cond.code yX2_noteWay cX2_noteWay 4 none, Cond.fieldLink RX2 37 "DayBench$Search" "low" "[[I", Cond.fieldLink RX2 40 "DayBench$Search" "high" "[[I", Cond.fieldLink RX2 9 "DayBench$Search" "earliest" "[I", Cond.methodLink RX2 43 Lib.Math.min.name, Cond.static Lib.Math.min.name]
def wsX2_run_r2 : List Cond := [Cond.initialized "java/lang/Math", Cond.code Lib.Math.min.name Lib.Math.min.code 2 (some .int), Cond.fieldLink RX2 15 "DayBench$Search" "latest" "[I", Cond.methodLink RX2 112 Lib.Math.max.name, Cond.static Lib.Math.max.name, Cond.code Lib.Math.max.name Lib.Math.max.code 2 (some .int), Cond.methodLink RX2 137 yX2_narrow, Cond.instanceMethod yX2_narrow, Cond.selects RX2 yX2_narrow yX2_narrow, Cond.code yX2_narrow cX2_narrow 7 (some .boolean), Cond.fieldLink RX2 34 "DayBench$Search" "apart" "[[I"]
def wsX2_run : List Cond := .code yX2_run cX2_run 2 (some .int) :: ((wsX2_run_r1 ++ wsX2_run_r2) ++ wsX20 ++ wsX40)
def wsX3_init : List Cond := .code yX3_init cX3_init 1 none :: ([.methodLink RX3 3 objectInit, .instanceMethod objectInit, .code objectInit ⟨#[0xb1]⟩ 1 none, .arrayClass .int, .fieldLink RX3 11 "DayBench$SlipSets" "toldSets" "[I", .fieldLink RX3 15 "DayBench$SlipSets" "root" "[I", .fieldLink RX3 18 "DayBench$SlipSets" "members" "[I", .fieldLink RX3 21 "DayBench$SlipSets" "weight" "[I", .fieldLink RX3 24 "DayBench$SlipSets" "lightest" "[I"] ++ wsX30)
def wsX3_begin : List Cond := .code yX3_begin cX3_begin 1 none :: ([.fieldLink RX3 27 "DayBench$SlipSets" "groups" "I", .fieldLink RX3 31 "DayBench$SlipSets" "size" "I", .fieldLink RX3 34 "DayBench$SlipSets" "least" "I"] ++ wsX30)
def wsX3_addGroup : List Cond := .code yX3_addGroup cX3_addGroup 4 none :: ([.fieldLink RX3 27 "DayBench$SlipSets" "groups" "I", .fieldLink RX3 15 "DayBench$SlipSets" "root" "[I", .fieldLink RX3 18 "DayBench$SlipSets" "members" "[I", .fieldLink RX3 21 "DayBench$SlipSets" "weight" "[I"] ++ wsX30)
def wsX3_weightOf : List Cond := .code yX3_weightOf cX3_weightOf 4 (some .int) :: ([.fieldLink RX3 27 "DayBench$SlipSets" "groups" "I", .fieldLink RX3 21 "DayBench$SlipSets" "weight" "[I"] ++ wsX30)
def wsX3_sayingsOf : List Cond := .code yX3_sayingsOf cX3_sayingsOf 4 (some .int) :: ([.fieldLink RX3 27 "DayBench$SlipSets" "groups" "I", .fieldLink RX3 18 "DayBench$SlipSets" "members" "[I"] ++ wsX30)
def wsX3_rootsOf : List Cond := .code yX3_rootsOf cX3_rootsOf 4 (some .int) :: ([.fieldLink RX3 27 "DayBench$SlipSets" "groups" "I", .fieldLink RX3 15 "DayBench$SlipSets" "root" "[I"] ++ wsX30)
def wsX3_tooHeavy : List Cond := .code yX3_tooHeavy cX3_tooHeavy 2 (some .boolean) :: ([.fieldLink RX3 31 "DayBench$SlipSets" "size" "I", .fieldLink RX3 34 "DayBench$SlipSets" "least" "I"] ++ wsX30)
def wsX3_note : List Cond := .code yX3_note cX3_note 3 none :: ([.fieldLink RX3 31 "DayBench$SlipSets" "size" "I", .fieldLink RX3 34 "DayBench$SlipSets" "least" "I", .fieldLink RX3 24 "DayBench$SlipSets" "lightest" "[I"] ++ wsX30)
def wsX3_tell : List Cond := .code yX3_tell cX3_tell 1 none :: ([.fieldLink RX3 24 "DayBench$SlipSets" "lightest" "[I", .fieldLink RX3 11 "DayBench$SlipSets" "toldSets" "[I", .fieldLink RX3 31 "DayBench$SlipSets" "size" "I", .methodLink RX3 37 arraycopyName, .native arraycopyName, .static arraycopyName, .initialized "java/lang/System", .fieldLink RX3 43 "DayBench$SlipSets" "told" "I"] ++ wsX30)
def wsX4_has : List Cond := .code yX4_has cX4_has 2 (some .boolean) :: ([.fieldLink RX4 18 "DayBench$Spans" "size" "I"] ++ wsX40)
def wsX5_init_r1 : List Cond := [Cond.methodLink RX5 1 objectInit, Cond.instanceMethod objectInit, Cond.code objectInit ⟨#[0xb1]⟩ 1 none, Cond.arrayClass .int, Cond.fieldLink RX5 9 "DayBench" "kingCalendar" "[I", Cond.fieldLink RX5 13 "DayBench" "kingFrom" "[I", Cond.fieldLink RX5 16 "DayBench" "kingTo" "[I", Cond.classLink RX5 19 RX1, Cond.fieldLink RX5 21 "DayBench" "sayings" "[LDayBench$Saying;", Cond.instantiable RX1 9, Cond.initialized RX1, Cond.classLink RX5 26 RX2, Cond.instantiable RX2 14, Cond.initialized RX2, Cond.fieldLink RX5 29 "DayBench" "search" "LDayBench$Search;", Cond.classLink RX5 33 RX3, Cond.instantiable RX3 9, Cond.initialized RX3, Cond.fieldLink RX5 36 "DayBench" "slipSets" "LDayBench$SlipSets;", Cond.fieldLink RX5 40 "DayBench" "heldFirst" "[I", Cond.fieldLink RX5 43 "DayBench" "heldLast" "[I", Cond.instanceMethod yX1_init, Cond.code yX1_init cX1_init 1 none, Cond.methodLink RX1 3 objectInit]
def wsX5_init_r2 : List Cond := [Cond.classLink RX1 9 RX4, Cond.instantiable RX4 3, Cond.initialized RX4, Cond.fieldLink RX1 12 "DayBench$Saying" "spans" "LDayBench$Spans;", Cond.instanceMethod yX4_init, Cond.code yX4_init cX4_init 1 none, Cond.methodLink RX4 3 objectInit, Cond.fieldLink RX4 9 "DayBench$Spans" "from" "[I", Cond.fieldLink RX4 15 "DayBench$Spans" "to" "[I", Cond.methodLink RX5 28 yX2_init, Cond.instanceMethod yX2_init, Cond.code yX2_init cX2_init 2 none, Cond.methodLink RX2 3 objectInit, Cond.fieldLink RX2 9 "DayBench$Search" "earliest" "[I", Cond.fieldLink RX2 15 "DayBench$Search" "latest" "[I", Cond.classLink RX2 18 RX4, Cond.fieldLink RX2 20 "DayBench$Search" "spans" "[LDayBench$Spans;", Cond.fieldLink RX2 25 "DayBench$Search" "spare" "LDayBench$Spans;", Cond.fieldLink RX2 29 "DayBench$Search" "findSpan" "LDayBench$Spans;", Cond.classLink RX2 32 "[[I", Cond.fieldLink RX2 34 "DayBench$Search" "apart" "[[I", Cond.fieldLink RX2 37 "DayBench$Search" "low" "[[I", Cond.fieldLink RX2 40 "DayBench$Search" "high" "[[I", Cond.instanceMethod yX3_init]
def wsX5_init_r3 : List Cond := [Cond.code yX3_init cX3_init 1 none, Cond.methodLink RX3 3 objectInit, Cond.fieldLink RX3 11 "DayBench$SlipSets" "toldSets" "[I", Cond.fieldLink RX3 15 "DayBench$SlipSets" "root" "[I", Cond.fieldLink RX3 18 "DayBench$SlipSets" "members" "[I", Cond.fieldLink RX3 21 "DayBench$SlipSets" "weight" "[I", Cond.fieldLink RX3 24 "DayBench$SlipSets" "lightest" "[I"]
def wsX5_init : List Cond := .code yX5_init cX5_init 2 none :: ((wsX5_init_r1 ++ (wsX5_init_r2 ++ wsX5_init_r3)) ++ wsX50 ++ wsX10 ++ wsX20 ++ wsX30 ++ wsX40)
def wsX5_day_r1 : List Cond := [Cond.methodLink RX5 46 yX0_dayOf, Cond.static yX0_dayOf, Cond.initialized RX0, Cond.code yX0_dayOf cX0_dayOf 5 (some .int), Cond.methodLink RX0 38 yX0_isMonth, Cond.static yX0_isMonth, Cond.code yX0_isMonth cX0_isMonth 3 (some .boolean), Cond.methodLink RX0 15 yX0_isYear, Cond.static yX0_isYear, Cond.code yX0_isYear cX0_isYear 2 (some .boolean), Cond.methodLink RX0 11 yX0_isCalendar, Cond.static yX0_isCalendar, Cond.code yX0_isCalendar cX0_isCalendar 1 (some .boolean), Cond.methodLink RX0 19 yX0_months, Cond.static yX0_months, Cond.code yX0_months cX0_months 1 (some .int), Cond.methodLink RX0 34 yX0_monthDays, Cond.static yX0_monthDays, Cond.code yX0_monthDays cX0_monthDays 3 (some .int), Cond.fieldLink RX0 23 "DayBench$Calendars" "MONTH_DAYS" "[I", Cond.methodLink RX0 27 yX0_isLeap, Cond.static yX0_isLeap, Cond.code yX0_isLeap cX0_isLeap 2 (some .boolean), Cond.methodLink RX0 42 yX0_monthStart]
def wsX5_day_r2 : List Cond := [Cond.static yX0_monthStart, Cond.code yX0_monthStart cX0_monthStart 5 (some .int), Cond.methodLink RX0 30 yX0_yearStart, Cond.static yX0_yearStart, Cond.code yX0_yearStart cX0_yearStart 4 (some .int), Cond.static yX5_isDay, Cond.initialized RX5, Cond.code yX5_isDay cX5_isDay 1 (some .boolean), Cond.constant RX5 225 (985999)]
def wsX5_day : List Cond := .code yX5_day cX5_day 5 (some .int) :: ((wsX5_day_r1 ++ wsX5_day_r2))
def wsX5_date_r1 : List Cond := [Cond.methodLink RX5 52 yX0_partOf, Cond.static yX0_partOf, Cond.initialized RX0, Cond.code yX0_partOf cX0_partOf 6 (some .int), Cond.methodLink RX0 11 yX0_isCalendar, Cond.static yX0_isCalendar, Cond.code yX0_isCalendar cX0_isCalendar 1 (some .boolean), Cond.static yX5_isDay, Cond.initialized RX5, Cond.code yX5_isDay cX5_isDay 1 (some .boolean), Cond.constant RX5 225 (985999), Cond.methodLink RX0 48 yX0_yearOf, Cond.static yX0_yearOf, Cond.code yX0_yearOf cX0_yearOf 3 (some .int), Cond.methodLink RX0 30 yX0_yearStart, Cond.static yX0_yearStart, Cond.code yX0_yearStart cX0_yearStart 4 (some .int), Cond.methodLink RX0 19 yX0_months, Cond.static yX0_months, Cond.code yX0_months cX0_months 1 (some .int), Cond.methodLink RX0 34 yX0_monthDays, Cond.static yX0_monthDays, Cond.code yX0_monthDays cX0_monthDays 3 (some .int), Cond.fieldLink RX0 23 "DayBench$Calendars" "MONTH_DAYS" "[I"]
def wsX5_date_r2 : List Cond := [Cond.methodLink RX0 27 yX0_isLeap, Cond.static yX0_isLeap, Cond.code yX0_isLeap cX0_isLeap 2 (some .boolean)]
def wsX5_date : List Cond := .code yX5_date cX5_date 4 (some .int) :: ((wsX5_date_r1 ++ wsX5_date_r2))
def wsX5_years_r1 : List Cond := [Cond.methodLink RX5 56 yX0_yearsBehind, Cond.static yX0_yearsBehind, Cond.initialized RX0, Cond.code yX0_yearsBehind cX0_yearsBehind 6 (some .int), Cond.methodLink RX0 51 yX0_partOf, Cond.static yX0_partOf, Cond.code yX0_partOf cX0_partOf 6 (some .int), Cond.methodLink RX0 11 yX0_isCalendar, Cond.static yX0_isCalendar, Cond.code yX0_isCalendar cX0_isCalendar 1 (some .boolean), Cond.static yX5_isDay, Cond.initialized RX5, Cond.code yX5_isDay cX5_isDay 1 (some .boolean), Cond.constant RX5 225 (985999), Cond.methodLink RX0 48 yX0_yearOf, Cond.static yX0_yearOf, Cond.code yX0_yearOf cX0_yearOf 3 (some .int), Cond.methodLink RX0 30 yX0_yearStart, Cond.static yX0_yearStart, Cond.code yX0_yearStart cX0_yearStart 4 (some .int), Cond.methodLink RX0 19 yX0_months, Cond.static yX0_months, Cond.code yX0_months cX0_months 1 (some .int), Cond.methodLink RX0 34 yX0_monthDays]
def wsX5_years_r2 : List Cond := [Cond.static yX0_monthDays, Cond.code yX0_monthDays cX0_monthDays 3 (some .int), Cond.fieldLink RX0 23 "DayBench$Calendars" "MONTH_DAYS" "[I", Cond.methodLink RX0 27 yX0_isLeap, Cond.static yX0_isLeap, Cond.code yX0_isLeap cX0_isLeap 2 (some .boolean), Cond.methodLink RX0 54 yX0_dayOf, Cond.static yX0_dayOf, Cond.code yX0_dayOf cX0_dayOf 5 (some .int), Cond.methodLink RX0 38 yX0_isMonth, Cond.static yX0_isMonth, Cond.code yX0_isMonth cX0_isMonth 3 (some .boolean), Cond.methodLink RX0 15 yX0_isYear, Cond.static yX0_isYear, Cond.code yX0_isYear cX0_isYear 2 (some .boolean), Cond.methodLink RX0 42 yX0_monthStart, Cond.static yX0_monthStart, Cond.code yX0_monthStart cX0_monthStart 5 (some .int)]
def wsX5_years : List Cond := .code yX5_years cX5_years 4 (some .int) :: ((wsX5_years_r1 ++ wsX5_years_r2))
def wsX5_isRowOfDays : List Cond := .code yX5_isRowOfDays cX5_isRowOfDays 2 (some .boolean) :: ([.methodLink RX5 148 yX5_isDay, .static yX5_isDay, .initialized RX5, .code yX5_isDay cX5_isDay 1 (some .boolean), .constant RX5 225 (985999)])
def wsX5_king : List Cond := .code yX5_king cX5_king 4 (some .int) :: ([.fieldLink RX5 59 "DayBench" "kings" "I", .fieldLink RX5 9 "DayBench" "kingCalendar" "[I", .fieldLink RX5 13 "DayBench" "kingFrom" "[I", .fieldLink RX5 16 "DayBench" "kingTo" "[I", .methodLink RX5 63 yX0_isCalendar, .static yX0_isCalendar, .initialized RX0, .code yX0_isCalendar cX0_isCalendar 1 (some .boolean), .methodLink RX5 67 yX5_isRowOfDays, .static yX5_isRowOfDays, .initialized RX5, .code yX5_isRowOfDays cX5_isRowOfDays 2 (some .boolean), .methodLink RX5 148 yX5_isDay, .static yX5_isDay, .code yX5_isDay cX5_isDay 1 (some .boolean), .constant RX5 225 (985999)] ++ wsX50)
def wsX5_event : List Cond := .code yX5_event cX5_event 1 (some .int) :: ([.fieldLink RX5 71 "DayBench" "events" "I"] ++ wsX50)
def wsX5_isEvent : List Cond := .code yX5_isEvent cX5_isEvent 2 (some .boolean) :: ([.fieldLink RX5 71 "DayBench" "events" "I"] ++ wsX50)
def wsX5_isBehind : List Cond := .code yX5_isBehind cX5_isBehind 5 (some .boolean) :: ([.constant RX5 226 (-40000), .constant RX5 227 (40000), .methodLink RX5 77 yX5_isEvent, .instanceMethod yX5_isEvent, .selects RX5 yX5_isEvent yX5_isEvent, .initialized RX5, .code yX5_isEvent cX5_isEvent 2 (some .boolean), .fieldLink RX5 71 "DayBench" "events" "I"] ++ wsX50)
def wsX5_addDate_r1 : List Cond := [Cond.methodLink RX5 46 yX0_dayOf, Cond.static yX0_dayOf, Cond.initialized RX0, Cond.code yX0_dayOf cX0_dayOf 5 (some .int), Cond.methodLink RX0 38 yX0_isMonth, Cond.static yX0_isMonth, Cond.code yX0_isMonth cX0_isMonth 3 (some .boolean), Cond.methodLink RX0 15 yX0_isYear, Cond.static yX0_isYear, Cond.code yX0_isYear cX0_isYear 2 (some .boolean), Cond.methodLink RX0 11 yX0_isCalendar, Cond.static yX0_isCalendar, Cond.code yX0_isCalendar cX0_isCalendar 1 (some .boolean), Cond.methodLink RX0 19 yX0_months, Cond.static yX0_months, Cond.code yX0_months cX0_months 1 (some .int), Cond.methodLink RX0 34 yX0_monthDays, Cond.static yX0_monthDays, Cond.code yX0_monthDays cX0_monthDays 3 (some .int), Cond.fieldLink RX0 23 "DayBench$Calendars" "MONTH_DAYS" "[I", Cond.methodLink RX0 27 yX0_isLeap, Cond.static yX0_isLeap, Cond.code yX0_isLeap cX0_isLeap 2 (some .boolean), Cond.methodLink RX0 42 yX0_monthStart]
def wsX5_addDate_r2 : List Cond := [Cond.static yX0_monthStart, Cond.code yX0_monthStart cX0_monthStart 5 (some .int), Cond.methodLink RX0 30 yX0_yearStart, Cond.static yX0_yearStart, Cond.code yX0_yearStart cX0_yearStart 4 (some .int), Cond.static yX5_isDay, Cond.initialized RX5, Cond.code yX5_isDay cX5_isDay 1 (some .boolean), Cond.constant RX5 225 (985999), Cond.methodLink RX5 228 yX4_add, Cond.instanceMethod yX4_add, Cond.selects RX4 yX4_add yX4_add, Cond.initialized RX4, Cond.code yX4_add cX4_add 5 none, Cond.methodLink RX4 22 Lib.Math.max.name, Cond.static Lib.Math.max.name, Cond.initialized "java/lang/Math", Cond.code Lib.Math.max.name Lib.Math.max.code 2 (some .int), Cond.constant RX4 28 (985999), Cond.methodLink RX4 29 Lib.Math.min.name, Cond.static Lib.Math.min.name, Cond.code Lib.Math.min.name Lib.Math.min.code 2 (some .int), Cond.fieldLink RX4 18 "DayBench$Spans" "size" "I", Cond.fieldLink RX4 9 "DayBench$Spans" "from" "[I"]
def wsX5_addDate_r3 : List Cond := [Cond.fieldLink RX4 15 "DayBench$Spans" "to" "[I"]
def wsX5_addDate : List Cond := .code yX5_addDate cX5_addDate 5 none :: ((wsX5_addDate_r1 ++ (wsX5_addDate_r2 ++ wsX5_addDate_r3)) ++ wsX40)
def wsX5_addReign_r1 : List Cond := [Cond.fieldLink RX5 59 "DayBench" "kings" "I", Cond.fieldLink RX5 9 "DayBench" "kingCalendar" "[I", Cond.fieldLink RX5 13 "DayBench" "kingFrom" "[I", Cond.fieldLink RX5 16 "DayBench" "kingTo" "[I", Cond.methodLink RX5 56 yX0_yearsBehind, Cond.static yX0_yearsBehind, Cond.initialized RX0, Cond.code yX0_yearsBehind cX0_yearsBehind 6 (some .int), Cond.methodLink RX0 51 yX0_partOf, Cond.static yX0_partOf, Cond.code yX0_partOf cX0_partOf 6 (some .int), Cond.methodLink RX0 11 yX0_isCalendar, Cond.static yX0_isCalendar, Cond.code yX0_isCalendar cX0_isCalendar 1 (some .boolean), Cond.static yX5_isDay, Cond.initialized RX5, Cond.code yX5_isDay cX5_isDay 1 (some .boolean), Cond.constant RX5 225 (985999), Cond.methodLink RX0 48 yX0_yearOf, Cond.static yX0_yearOf, Cond.code yX0_yearOf cX0_yearOf 3 (some .int), Cond.methodLink RX0 30 yX0_yearStart, Cond.static yX0_yearStart, Cond.code yX0_yearStart cX0_yearStart 4 (some .int)]
def wsX5_addReign_r2 : List Cond := [Cond.methodLink RX0 19 yX0_months, Cond.static yX0_months, Cond.code yX0_months cX0_months 1 (some .int), Cond.methodLink RX0 34 yX0_monthDays, Cond.static yX0_monthDays, Cond.code yX0_monthDays cX0_monthDays 3 (some .int), Cond.fieldLink RX0 23 "DayBench$Calendars" "MONTH_DAYS" "[I", Cond.methodLink RX0 27 yX0_isLeap, Cond.static yX0_isLeap, Cond.code yX0_isLeap cX0_isLeap 2 (some .boolean), Cond.methodLink RX0 54 yX0_dayOf, Cond.static yX0_dayOf, Cond.code yX0_dayOf cX0_dayOf 5 (some .int), Cond.methodLink RX0 38 yX0_isMonth, Cond.static yX0_isMonth, Cond.code yX0_isMonth cX0_isMonth 3 (some .boolean), Cond.methodLink RX0 15 yX0_isYear, Cond.static yX0_isYear, Cond.code yX0_isYear cX0_isYear 2 (some .boolean), Cond.methodLink RX0 42 yX0_monthStart, Cond.static yX0_monthStart, Cond.code yX0_monthStart cX0_monthStart 5 (some .int), Cond.methodLink RX5 228 yX4_add, Cond.instanceMethod yX4_add]
def wsX5_addReign_r3 : List Cond := [Cond.selects RX4 yX4_add yX4_add, Cond.initialized RX4, Cond.code yX4_add cX4_add 5 none, Cond.methodLink RX4 22 Lib.Math.max.name, Cond.static Lib.Math.max.name, Cond.initialized "java/lang/Math", Cond.code Lib.Math.max.name Lib.Math.max.code 2 (some .int), Cond.constant RX4 28 (985999), Cond.methodLink RX4 29 Lib.Math.min.name, Cond.static Lib.Math.min.name, Cond.code Lib.Math.min.name Lib.Math.min.code 2 (some .int), Cond.fieldLink RX4 18 "DayBench$Spans" "size" "I", Cond.fieldLink RX4 9 "DayBench$Spans" "from" "[I", Cond.fieldLink RX4 15 "DayBench$Spans" "to" "[I"]
def wsX5_addReign : List Cond := .code yX5_addReign cX5_addReign 6 none :: ((wsX5_addReign_r1 ++ (wsX5_addReign_r2 ++ wsX5_addReign_r3)) ++ wsX50 ++ wsX40)
def wsX5_fillSpans_r1 : List Cond := [Cond.methodLink RX5 67 yX5_isRowOfDays, Cond.static yX5_isRowOfDays, Cond.initialized RX5, Cond.code yX5_isRowOfDays cX5_isRowOfDays 2 (some .boolean), Cond.methodLink RX5 148 yX5_isDay, Cond.static yX5_isDay, Cond.code yX5_isDay cX5_isDay 1 (some .boolean), Cond.constant RX5 225 (985999), Cond.methodLink RX5 228 yX4_add, Cond.instanceMethod yX4_add, Cond.selects RX4 yX4_add yX4_add, Cond.initialized RX4, Cond.code yX4_add cX4_add 5 none, Cond.methodLink RX4 22 Lib.Math.max.name, Cond.static Lib.Math.max.name, Cond.initialized "java/lang/Math", Cond.code Lib.Math.max.name Lib.Math.max.code 2 (some .int), Cond.constant RX4 28 (985999), Cond.methodLink RX4 29 Lib.Math.min.name, Cond.static Lib.Math.min.name, Cond.code Lib.Math.min.name Lib.Math.min.code 2 (some .int), Cond.fieldLink RX4 18 "DayBench$Spans" "size" "I", Cond.fieldLink RX4 9 "DayBench$Spans" "from" "[I", Cond.fieldLink RX4 15 "DayBench$Spans" "to" "[I"]
def wsX5_fillSpans_r2 : List Cond := [Cond.methodLink RX5 231 yX5_addDate, Cond.static yX5_addDate, Cond.code yX5_addDate cX5_addDate 5 none, Cond.methodLink RX5 46 yX0_dayOf, Cond.static yX0_dayOf, Cond.initialized RX0, Cond.code yX0_dayOf cX0_dayOf 5 (some .int), Cond.methodLink RX0 38 yX0_isMonth, Cond.static yX0_isMonth, Cond.code yX0_isMonth cX0_isMonth 3 (some .boolean), Cond.methodLink RX0 15 yX0_isYear, Cond.static yX0_isYear, Cond.code yX0_isYear cX0_isYear 2 (some .boolean), Cond.methodLink RX0 11 yX0_isCalendar, Cond.static yX0_isCalendar, Cond.code yX0_isCalendar cX0_isCalendar 1 (some .boolean), Cond.methodLink RX0 19 yX0_months, Cond.static yX0_months, Cond.code yX0_months cX0_months 1 (some .int), Cond.methodLink RX0 34 yX0_monthDays, Cond.static yX0_monthDays, Cond.code yX0_monthDays cX0_monthDays 3 (some .int), Cond.fieldLink RX0 23 "DayBench$Calendars" "MONTH_DAYS" "[I", Cond.methodLink RX0 27 yX0_isLeap]
def wsX5_fillSpans_r3 : List Cond := [Cond.static yX0_isLeap, Cond.code yX0_isLeap cX0_isLeap 2 (some .boolean), Cond.methodLink RX0 42 yX0_monthStart, Cond.static yX0_monthStart, Cond.code yX0_monthStart cX0_monthStart 5 (some .int), Cond.methodLink RX0 30 yX0_yearStart, Cond.static yX0_yearStart, Cond.code yX0_yearStart cX0_yearStart 4 (some .int), Cond.methodLink RX5 235 yX0_isMonth, Cond.methodLink RX5 239 yX0_monthStart, Cond.methodLink RX5 242 yX0_monthDays, Cond.methodLink RX5 245 yX0_isYear, Cond.methodLink RX5 248 yX0_yearStart, Cond.methodLink RX5 251 yX5_addReign, Cond.instanceMethod yX5_addReign, Cond.selects RX5 yX5_addReign yX5_addReign, Cond.code yX5_addReign cX5_addReign 6 none, Cond.fieldLink RX5 59 "DayBench" "kings" "I", Cond.fieldLink RX5 9 "DayBench" "kingCalendar" "[I", Cond.fieldLink RX5 13 "DayBench" "kingFrom" "[I", Cond.fieldLink RX5 16 "DayBench" "kingTo" "[I", Cond.methodLink RX5 56 yX0_yearsBehind, Cond.static yX0_yearsBehind, Cond.code yX0_yearsBehind cX0_yearsBehind 6 (some .int)]
def wsX5_fillSpans_r4 : List Cond := [Cond.methodLink RX0 51 yX0_partOf, Cond.static yX0_partOf, Cond.code yX0_partOf cX0_partOf 6 (some .int), Cond.methodLink RX0 48 yX0_yearOf, Cond.static yX0_yearOf, Cond.code yX0_yearOf cX0_yearOf 3 (some .int), Cond.methodLink RX0 54 yX0_dayOf]
def wsX5_fillSpans : List Cond := .code yX5_fillSpans cX5_fillSpans 7 none :: ((wsX5_fillSpans_r1 ++ (wsX5_fillSpans_r2 ++ (wsX5_fillSpans_r3 ++ wsX5_fillSpans_r4))) ++ wsX40 ++ wsX50)
def wsX5_say_r1 : List Cond := [Cond.fieldLink RX5 74 "DayBench" "sayingsMade" "I", Cond.fieldLink RX5 21 "DayBench" "sayings" "[LDayBench$Saying;", Cond.fieldLink RX5 80 "DayBench$Saying" "spans" "LDayBench$Spans;", Cond.fieldLink RX5 101 "DayBench$Spans" "size" "I", Cond.methodLink RX5 77 yX5_isEvent, Cond.instanceMethod yX5_isEvent, Cond.selects RX5 yX5_isEvent yX5_isEvent, Cond.initialized RX5, Cond.code yX5_isEvent cX5_isEvent 2 (some .boolean), Cond.fieldLink RX5 71 "DayBench" "events" "I", Cond.methodLink RX5 84 yX4_clear, Cond.instanceMethod yX4_clear, Cond.selects RX4 yX4_clear yX4_clear, Cond.initialized RX4, Cond.code yX4_clear cX4_clear 1 none, Cond.fieldLink RX4 18 "DayBench$Spans" "size" "I", Cond.methodLink RX5 89 yX5_isBehind, Cond.instanceMethod yX5_isBehind, Cond.selects RX5 yX5_isBehind yX5_isBehind, Cond.code yX5_isBehind cX5_isBehind 5 (some .boolean), Cond.constant RX5 226 (-40000), Cond.constant RX5 227 (40000), Cond.methodLink RX5 93 yX1_setBehind, Cond.instanceMethod yX1_setBehind]
def wsX5_say_r2 : List Cond := [Cond.selects RX1 yX1_setBehind yX1_setBehind, Cond.initialized RX1, Cond.code yX1_setBehind cX1_setBehind 4 none, Cond.fieldLink RX1 35 "DayBench$Saying" "leastBehind" "I", Cond.fieldLink RX1 38 "DayBench$Saying" "mostBehind" "I", Cond.fieldLink RX1 41 "DayBench$Saying" "behindEvent" "I", Cond.methodLink RX5 97 yX5_fillSpans, Cond.instanceMethod yX5_fillSpans, Cond.selects RX5 yX5_fillSpans yX5_fillSpans, Cond.code yX5_fillSpans cX5_fillSpans 7 none, Cond.methodLink RX5 67 yX5_isRowOfDays, Cond.static yX5_isRowOfDays, Cond.code yX5_isRowOfDays cX5_isRowOfDays 2 (some .boolean), Cond.methodLink RX5 148 yX5_isDay, Cond.static yX5_isDay, Cond.code yX5_isDay cX5_isDay 1 (some .boolean), Cond.constant RX5 225 (985999), Cond.methodLink RX5 228 yX4_add, Cond.instanceMethod yX4_add, Cond.selects RX4 yX4_add yX4_add, Cond.code yX4_add cX4_add 5 none, Cond.methodLink RX4 22 Lib.Math.max.name, Cond.static Lib.Math.max.name, Cond.initialized "java/lang/Math"]
def wsX5_say_r3 : List Cond := [Cond.code Lib.Math.max.name Lib.Math.max.code 2 (some .int), Cond.constant RX4 28 (985999), Cond.methodLink RX4 29 Lib.Math.min.name, Cond.static Lib.Math.min.name, Cond.code Lib.Math.min.name Lib.Math.min.code 2 (some .int), Cond.fieldLink RX4 9 "DayBench$Spans" "from" "[I", Cond.fieldLink RX4 15 "DayBench$Spans" "to" "[I", Cond.methodLink RX5 231 yX5_addDate, Cond.static yX5_addDate, Cond.code yX5_addDate cX5_addDate 5 none, Cond.methodLink RX5 46 yX0_dayOf, Cond.static yX0_dayOf, Cond.initialized RX0, Cond.code yX0_dayOf cX0_dayOf 5 (some .int), Cond.methodLink RX0 38 yX0_isMonth, Cond.static yX0_isMonth, Cond.code yX0_isMonth cX0_isMonth 3 (some .boolean), Cond.methodLink RX0 15 yX0_isYear, Cond.static yX0_isYear, Cond.code yX0_isYear cX0_isYear 2 (some .boolean), Cond.methodLink RX0 11 yX0_isCalendar, Cond.static yX0_isCalendar, Cond.code yX0_isCalendar cX0_isCalendar 1 (some .boolean), Cond.methodLink RX0 19 yX0_months]
def wsX5_say_r4 : List Cond := [Cond.static yX0_months, Cond.code yX0_months cX0_months 1 (some .int), Cond.methodLink RX0 34 yX0_monthDays, Cond.static yX0_monthDays, Cond.code yX0_monthDays cX0_monthDays 3 (some .int), Cond.fieldLink RX0 23 "DayBench$Calendars" "MONTH_DAYS" "[I", Cond.methodLink RX0 27 yX0_isLeap, Cond.static yX0_isLeap, Cond.code yX0_isLeap cX0_isLeap 2 (some .boolean), Cond.methodLink RX0 42 yX0_monthStart, Cond.static yX0_monthStart, Cond.code yX0_monthStart cX0_monthStart 5 (some .int), Cond.methodLink RX0 30 yX0_yearStart, Cond.static yX0_yearStart, Cond.code yX0_yearStart cX0_yearStart 4 (some .int), Cond.methodLink RX5 235 yX0_isMonth, Cond.methodLink RX5 239 yX0_monthStart, Cond.methodLink RX5 242 yX0_monthDays, Cond.methodLink RX5 245 yX0_isYear, Cond.methodLink RX5 248 yX0_yearStart, Cond.methodLink RX5 251 yX5_addReign, Cond.instanceMethod yX5_addReign, Cond.selects RX5 yX5_addReign yX5_addReign, Cond.code yX5_addReign cX5_addReign 6 none]
def wsX5_say_r5 : List Cond := [Cond.fieldLink RX5 59 "DayBench" "kings" "I", Cond.fieldLink RX5 9 "DayBench" "kingCalendar" "[I", Cond.fieldLink RX5 13 "DayBench" "kingFrom" "[I", Cond.fieldLink RX5 16 "DayBench" "kingTo" "[I", Cond.methodLink RX5 56 yX0_yearsBehind, Cond.static yX0_yearsBehind, Cond.code yX0_yearsBehind cX0_yearsBehind 6 (some .int), Cond.methodLink RX0 51 yX0_partOf, Cond.static yX0_partOf, Cond.code yX0_partOf cX0_partOf 6 (some .int), Cond.methodLink RX0 48 yX0_yearOf, Cond.static yX0_yearOf, Cond.code yX0_yearOf cX0_yearOf 3 (some .int), Cond.methodLink RX0 54 yX0_dayOf, Cond.methodLink RX5 104 yX1_begin, Cond.instanceMethod yX1_begin, Cond.selects RX1 yX1_begin yX1_begin, Cond.code yX1_begin cX1_begin 4 none, Cond.fieldLink RX1 18 "DayBench$Saying" "event" "I", Cond.fieldLink RX1 22 "DayBench$Saying" "what" "I", Cond.fieldLink RX1 25 "DayBench$Saying" "weight" "I", Cond.fieldLink RX1 28 "DayBench$Saying" "taken" "Z", Cond.fieldLink RX1 32 "DayBench$Saying" "copyOf" "I"]
def wsX5_say : List Cond := .code yX5_say cX5_say 8 (some .int) :: ((wsX5_say_r1 ++ (wsX5_say_r2 ++ (wsX5_say_r3 ++ (wsX5_say_r4 ++ wsX5_say_r5)))) ++ wsX50 ++ wsX10 ++ wsX40)
def wsX5_isSaying : List Cond := .code yX5_isSaying cX5_isSaying 2 (some .boolean) :: ([.fieldLink RX5 74 "DayBench" "sayingsMade" "I"] ++ wsX50)
def wsX5_copy : List Cond := .code yX5_copy cX5_copy 3 (some .boolean) :: ([.fieldLink RX5 21 "DayBench" "sayings" "[LDayBench$Saying;", .fieldLink RX5 110 "DayBench$Saying" "copyOf" "I", .methodLink RX5 107 yX5_isSaying, .instanceMethod yX5_isSaying, .selects RX5 yX5_isSaying yX5_isSaying, .initialized RX5, .code yX5_isSaying cX5_isSaying 2 (some .boolean), .fieldLink RX5 74 "DayBench" "sayingsMade" "I"] ++ wsX50 ++ wsX10)
def wsX5_take : List Cond := .code yX5_take cX5_take 3 (some .boolean) :: ([.fieldLink RX5 21 "DayBench" "sayings" "[LDayBench$Saying;", .fieldLink RX5 113 "DayBench$Saying" "taken" "Z", .methodLink RX5 107 yX5_isSaying, .instanceMethod yX5_isSaying, .selects RX5 yX5_isSaying yX5_isSaying, .initialized RX5, .code yX5_isSaying cX5_isSaying 2 (some .boolean), .fieldLink RX5 74 "DayBench" "sayingsMade" "I"] ++ wsX50 ++ wsX10)
def wsX5_rootOf : List Cond := .code yX5_rootOf cX5_rootOf 4 (some .int) :: ([.fieldLink RX5 21 "DayBench" "sayings" "[LDayBench$Saying;", .fieldLink RX5 110 "DayBench$Saying" "copyOf" "I"] ++ wsX50 ++ wsX10)
def wsX5_look : List Cond := .code yX5_look cX5_look 4 (some .int) :: ([.fieldLink RX5 21 "DayBench" "sayings" "[LDayBench$Saying;", .fieldLink RX5 117 "DayBench$Saying" "event" "I", .fieldLink RX5 120 "DayBench$Saying" "what" "I", .fieldLink RX5 123 "DayBench$Saying" "weight" "I", .fieldLink RX5 113 "DayBench$Saying" "taken" "Z", .fieldLink RX5 110 "DayBench$Saying" "copyOf" "I", .fieldLink RX5 80 "DayBench$Saying" "spans" "LDayBench$Spans;", .fieldLink RX5 101 "DayBench$Spans" "size" "I", .methodLink RX5 107 yX5_isSaying, .instanceMethod yX5_isSaying, .selects RX5 yX5_isSaying yX5_isSaying, .initialized RX5, .code yX5_isSaying cX5_isSaying 2 (some .boolean), .fieldLink RX5 74 "DayBench" "sayingsMade" "I", .methodLink RX5 126 yX5_rootOf, .instanceMethod yX5_rootOf, .selects RX5 yX5_rootOf yX5_rootOf, .code yX5_rootOf cX5_rootOf 4 (some .int)] ++ wsX50 ++ wsX10 ++ wsX40)
def wsX5_span : List Cond := .code yX5_span cX5_span 5 (some .int) :: ([.fieldLink RX5 21 "DayBench" "sayings" "[LDayBench$Saying;", .fieldLink RX5 80 "DayBench$Saying" "spans" "LDayBench$Spans;", .fieldLink RX5 133 "DayBench$Spans" "to" "[I", .fieldLink RX5 136 "DayBench$Spans" "from" "[I", .methodLink RX5 107 yX5_isSaying, .instanceMethod yX5_isSaying, .selects RX5 yX5_isSaying yX5_isSaying, .initialized RX5, .code yX5_isSaying cX5_isSaying 2 (some .boolean), .fieldLink RX5 74 "DayBench" "sayingsMade" "I", .methodLink RX5 130 yX4_has, .instanceMethod yX4_has, .selects RX4 yX4_has yX4_has, .initialized RX4, .code yX4_has cX4_has 2 (some .boolean), .fieldLink RX4 18 "DayBench$Spans" "size" "I"] ++ wsX50 ++ wsX10 ++ wsX40)
def wsX5_takenSet : List Cond := .code yX5_takenSet cX5_takenSet 3 (some .int) :: ([.fieldLink RX5 74 "DayBench" "sayingsMade" "I", .fieldLink RX5 21 "DayBench" "sayings" "[LDayBench$Saying;", .fieldLink RX5 113 "DayBench$Saying" "taken" "Z"] ++ wsX50 ++ wsX10)
def wsX5_askAllWays_r1 : List Cond := [Cond.fieldLink RX5 29 "DayBench" "search" "LDayBench$Search;", Cond.fieldLink RX5 71 "DayBench" "events" "I", Cond.fieldLink RX5 21 "DayBench" "sayings" "[LDayBench$Saying;", Cond.methodLink RX5 77 yX5_isEvent, Cond.instanceMethod yX5_isEvent, Cond.selects RX5 yX5_isEvent yX5_isEvent, Cond.initialized RX5, Cond.code yX5_isEvent cX5_isEvent 2 (some .boolean), Cond.methodLink RX5 151 yX2_begin, Cond.instanceMethod yX2_begin, Cond.selects RX2 yX2_begin yX2_begin, Cond.initialized RX2, Cond.code yX2_begin cX2_begin 2 none, Cond.methodLink RX2 43 Lib.Math.min.name, Cond.static Lib.Math.min.name, Cond.initialized "java/lang/Math", Cond.code Lib.Math.min.name Lib.Math.min.code 2 (some .int), Cond.fieldLink RX2 49 "DayBench$Search" "events" "I", Cond.fieldLink RX2 53 "DayBench$Search" "looks" "I", Cond.fieldLink RX2 56 "DayBench$Search" "spent" "Z", Cond.methodLink RX5 154 yX5_takenSet, Cond.instanceMethod yX5_takenSet, Cond.selects RX5 yX5_takenSet yX5_takenSet, Cond.code yX5_takenSet cX5_takenSet 3 (some .int)]
def wsX5_askAllWays_r2 : List Cond := [Cond.fieldLink RX5 74 "DayBench" "sayingsMade" "I", Cond.fieldLink RX5 113 "DayBench$Saying" "taken" "Z", Cond.methodLink RX5 158 yX2_lay, Cond.instanceMethod yX2_lay, Cond.selects RX2 yX2_lay yX2_lay, Cond.code yX2_lay cX2_lay 4 none, Cond.fieldLink RX2 63 "DayBench$Saying" "what" "I", Cond.fieldLink RX2 72 "DayBench$Saying" "event" "I", Cond.fieldLink RX2 75 "DayBench$Saying" "spans" "LDayBench$Spans;", Cond.fieldLink RX2 85 "DayBench$Search" "together" "Z", Cond.methodLink RX2 60 yX2_clearTable, Cond.instanceMethod yX2_clearTable, Cond.selects RX2 yX2_clearTable yX2_clearTable, Cond.code yX2_clearTable cX2_clearTable 3 none, Cond.fieldLink RX2 20 "DayBench$Search" "spans" "[LDayBench$Spans;", Cond.constant RX2 94 (985999), Cond.fieldLink RX2 34 "DayBench$Search" "apart" "[[I", Cond.methodLink RX2 91 yX4_clear, Cond.instanceMethod yX4_clear, Cond.selects RX4 yX4_clear yX4_clear, Cond.initialized RX4, Cond.code yX4_clear cX4_clear 1 none, Cond.fieldLink RX4 18 "DayBench$Spans" "size" "I", Cond.methodLink RX2 95 yX4_add]
def wsX5_askAllWays_r3 : List Cond := [Cond.instanceMethod yX4_add, Cond.selects RX4 yX4_add yX4_add, Cond.code yX4_add cX4_add 5 none, Cond.methodLink RX4 22 Lib.Math.max.name, Cond.static Lib.Math.max.name, Cond.code Lib.Math.max.name Lib.Math.max.code 2 (some .int), Cond.constant RX4 28 (985999), Cond.methodLink RX4 29 Lib.Math.min.name, Cond.fieldLink RX4 9 "DayBench$Spans" "from" "[I", Cond.fieldLink RX4 15 "DayBench$Spans" "to" "[I", Cond.methodLink RX2 68 yX2_layBehind, Cond.instanceMethod yX2_layBehind, Cond.selects RX2 yX2_layBehind yX2_layBehind, Cond.code yX2_layBehind cX2_layBehind 4 none, Cond.fieldLink RX2 99 "DayBench$Saying" "behindEvent" "I", Cond.fieldLink RX2 102 "DayBench$Saying" "mostBehind" "I", Cond.fieldLink RX2 105 "DayBench$Saying" "leastBehind" "I", Cond.methodLink RX2 77 yX2_keepCommon, Cond.instanceMethod yX2_keepCommon, Cond.selects RX2 yX2_keepCommon yX2_keepCommon, Cond.code yX2_keepCommon cX2_keepCommon 4 none, Cond.fieldLink RX2 25 "DayBench$Search" "spare" "LDayBench$Spans;", Cond.methodLink RX2 108 yX4_setToCommon, Cond.instanceMethod yX4_setToCommon]
def wsX5_askAllWays_r4 : List Cond := [Cond.selects RX4 yX4_setToCommon yX4_setToCommon, Cond.code yX4_setToCommon cX4_setToCommon 5 none, Cond.methodLink RX4 32 yX4_clear, Cond.methodLink RX4 35 yX4_add, Cond.methodLink RX2 81 yX2_closeApart, Cond.instanceMethod yX2_closeApart, Cond.selects RX2 yX2_closeApart yX2_closeApart, Cond.code yX2_closeApart cX2_closeApart 4 (some .boolean), Cond.methodLink RX2 88 yX2_boundDays, Cond.instanceMethod yX2_boundDays, Cond.selects RX2 yX2_boundDays yX2_boundDays, Cond.code yX2_boundDays cX2_boundDays 3 none, Cond.fieldLink RX2 37 "DayBench$Search" "low" "[[I", Cond.fieldLink RX2 40 "DayBench$Search" "high" "[[I", Cond.methodLink RX2 112 Lib.Math.max.name, Cond.methodLink RX5 166 yX2_run, Cond.instanceMethod yX2_run, Cond.selects RX2 yX2_run yX2_run, Cond.code yX2_run cX2_run 2 (some .int), Cond.fieldLink RX2 115 "DayBench$Search" "tillOne" "Z", Cond.fieldLink RX2 118 "DayBench$Search" "found" "Z", Cond.methodLink RX2 121 yX2_takeSpans, Cond.instanceMethod yX2_takeSpans, Cond.selects RX2 yX2_takeSpans yX2_takeSpans]
def wsX5_askAllWays_r5 : List Cond := [Cond.code yX2_takeSpans cX2_takeSpans 3 none, Cond.fieldLink RX2 128 "DayBench$Spans" "size" "I", Cond.fieldLink RX2 131 "DayBench$Spans" "from" "[I", Cond.fieldLink RX2 134 "DayBench$Spans" "to" "[I", Cond.methodLink RX2 125 yX2_noteWay, Cond.instanceMethod yX2_noteWay, Cond.selects RX2 yX2_noteWay yX2_noteWay, Cond.code yX2_noteWay cX2_noteWay 4 none, Cond.fieldLink RX2 9 "DayBench$Search" "earliest" "[I", Cond.fieldLink RX2 15 "DayBench$Search" "latest" "[I", Cond.methodLink RX2 137 yX2_narrow, Cond.instanceMethod yX2_narrow, Cond.selects RX2 yX2_narrow yX2_narrow, Cond.code yX2_narrow cX2_narrow 7 (some .boolean)]
def wsX5_askAllWays : List Cond := .code yX5_askAllWays cX5_askAllWays 3 (some .int) :: ((wsX5_askAllWays_r1 ++ (wsX5_askAllWays_r2 ++ (wsX5_askAllWays_r3 ++ (wsX5_askAllWays_r4 ++ wsX5_askAllWays_r5)))) ++ wsX50 ++ wsX20 ++ wsX10 ++ wsX40)
def wsX5_first_r1 : List Cond := [Cond.fieldLink RX5 29 "DayBench" "search" "LDayBench$Search;", Cond.fieldLink RX5 142 "DayBench$Search" "earliest" "[I", Cond.methodLink RX5 139 yX5_askAllWays, Cond.instanceMethod yX5_askAllWays, Cond.selects RX5 yX5_askAllWays yX5_askAllWays, Cond.initialized RX5, Cond.code yX5_askAllWays cX5_askAllWays 3 (some .int), Cond.fieldLink RX5 71 "DayBench" "events" "I", Cond.fieldLink RX5 21 "DayBench" "sayings" "[LDayBench$Saying;", Cond.methodLink RX5 77 yX5_isEvent, Cond.instanceMethod yX5_isEvent, Cond.selects RX5 yX5_isEvent yX5_isEvent, Cond.code yX5_isEvent cX5_isEvent 2 (some .boolean), Cond.methodLink RX5 151 yX2_begin, Cond.instanceMethod yX2_begin, Cond.selects RX2 yX2_begin yX2_begin, Cond.initialized RX2, Cond.code yX2_begin cX2_begin 2 none, Cond.methodLink RX2 43 Lib.Math.min.name, Cond.static Lib.Math.min.name, Cond.initialized "java/lang/Math", Cond.code Lib.Math.min.name Lib.Math.min.code 2 (some .int), Cond.fieldLink RX2 49 "DayBench$Search" "events" "I", Cond.fieldLink RX2 53 "DayBench$Search" "looks" "I"]
def wsX5_first_r2 : List Cond := [Cond.fieldLink RX2 56 "DayBench$Search" "spent" "Z", Cond.methodLink RX5 154 yX5_takenSet, Cond.instanceMethod yX5_takenSet, Cond.selects RX5 yX5_takenSet yX5_takenSet, Cond.code yX5_takenSet cX5_takenSet 3 (some .int), Cond.fieldLink RX5 74 "DayBench" "sayingsMade" "I", Cond.fieldLink RX5 113 "DayBench$Saying" "taken" "Z", Cond.methodLink RX5 158 yX2_lay, Cond.instanceMethod yX2_lay, Cond.selects RX2 yX2_lay yX2_lay, Cond.code yX2_lay cX2_lay 4 none, Cond.fieldLink RX2 63 "DayBench$Saying" "what" "I", Cond.fieldLink RX2 72 "DayBench$Saying" "event" "I", Cond.fieldLink RX2 75 "DayBench$Saying" "spans" "LDayBench$Spans;", Cond.fieldLink RX2 85 "DayBench$Search" "together" "Z", Cond.methodLink RX2 60 yX2_clearTable, Cond.instanceMethod yX2_clearTable, Cond.selects RX2 yX2_clearTable yX2_clearTable, Cond.code yX2_clearTable cX2_clearTable 3 none, Cond.fieldLink RX2 20 "DayBench$Search" "spans" "[LDayBench$Spans;", Cond.constant RX2 94 (985999), Cond.fieldLink RX2 34 "DayBench$Search" "apart" "[[I", Cond.methodLink RX2 91 yX4_clear, Cond.instanceMethod yX4_clear]
def wsX5_first_r3 : List Cond := [Cond.selects RX4 yX4_clear yX4_clear, Cond.initialized RX4, Cond.code yX4_clear cX4_clear 1 none, Cond.fieldLink RX4 18 "DayBench$Spans" "size" "I", Cond.methodLink RX2 95 yX4_add, Cond.instanceMethod yX4_add, Cond.selects RX4 yX4_add yX4_add, Cond.code yX4_add cX4_add 5 none, Cond.methodLink RX4 22 Lib.Math.max.name, Cond.static Lib.Math.max.name, Cond.code Lib.Math.max.name Lib.Math.max.code 2 (some .int), Cond.constant RX4 28 (985999), Cond.methodLink RX4 29 Lib.Math.min.name, Cond.fieldLink RX4 9 "DayBench$Spans" "from" "[I", Cond.fieldLink RX4 15 "DayBench$Spans" "to" "[I", Cond.methodLink RX2 68 yX2_layBehind, Cond.instanceMethod yX2_layBehind, Cond.selects RX2 yX2_layBehind yX2_layBehind, Cond.code yX2_layBehind cX2_layBehind 4 none, Cond.fieldLink RX2 99 "DayBench$Saying" "behindEvent" "I", Cond.fieldLink RX2 102 "DayBench$Saying" "mostBehind" "I", Cond.fieldLink RX2 105 "DayBench$Saying" "leastBehind" "I", Cond.methodLink RX2 77 yX2_keepCommon, Cond.instanceMethod yX2_keepCommon]
def wsX5_first_r4 : List Cond := [Cond.selects RX2 yX2_keepCommon yX2_keepCommon, Cond.code yX2_keepCommon cX2_keepCommon 4 none, Cond.fieldLink RX2 25 "DayBench$Search" "spare" "LDayBench$Spans;", Cond.methodLink RX2 108 yX4_setToCommon, Cond.instanceMethod yX4_setToCommon, Cond.selects RX4 yX4_setToCommon yX4_setToCommon, Cond.code yX4_setToCommon cX4_setToCommon 5 none, Cond.methodLink RX4 32 yX4_clear, Cond.methodLink RX4 35 yX4_add, Cond.methodLink RX2 81 yX2_closeApart, Cond.instanceMethod yX2_closeApart, Cond.selects RX2 yX2_closeApart yX2_closeApart, Cond.code yX2_closeApart cX2_closeApart 4 (some .boolean), Cond.methodLink RX2 88 yX2_boundDays, Cond.instanceMethod yX2_boundDays, Cond.selects RX2 yX2_boundDays yX2_boundDays, Cond.code yX2_boundDays cX2_boundDays 3 none, Cond.fieldLink RX2 37 "DayBench$Search" "low" "[[I", Cond.fieldLink RX2 40 "DayBench$Search" "high" "[[I", Cond.methodLink RX2 112 Lib.Math.max.name, Cond.methodLink RX5 166 yX2_run, Cond.instanceMethod yX2_run, Cond.selects RX2 yX2_run yX2_run, Cond.code yX2_run cX2_run 2 (some .int)]
def wsX5_first_r5 : List Cond := [Cond.fieldLink RX2 115 "DayBench$Search" "tillOne" "Z", Cond.fieldLink RX2 118 "DayBench$Search" "found" "Z", Cond.methodLink RX2 121 yX2_takeSpans, Cond.instanceMethod yX2_takeSpans, Cond.selects RX2 yX2_takeSpans yX2_takeSpans, Cond.code yX2_takeSpans cX2_takeSpans 3 none, Cond.fieldLink RX2 128 "DayBench$Spans" "size" "I", Cond.fieldLink RX2 131 "DayBench$Spans" "from" "[I", Cond.fieldLink RX2 134 "DayBench$Spans" "to" "[I", Cond.methodLink RX2 125 yX2_noteWay, Cond.instanceMethod yX2_noteWay, Cond.selects RX2 yX2_noteWay yX2_noteWay, Cond.code yX2_noteWay cX2_noteWay 4 none, Cond.fieldLink RX2 9 "DayBench$Search" "earliest" "[I", Cond.fieldLink RX2 15 "DayBench$Search" "latest" "[I", Cond.methodLink RX2 137 yX2_narrow, Cond.instanceMethod yX2_narrow, Cond.selects RX2 yX2_narrow yX2_narrow, Cond.code yX2_narrow cX2_narrow 7 (some .boolean)]
def wsX5_first : List Cond := .code yX5_first cX5_first 3 (some .int) :: ((wsX5_first_r1 ++ (wsX5_first_r2 ++ (wsX5_first_r3 ++ (wsX5_first_r4 ++ wsX5_first_r5)))) ++ wsX50 ++ wsX20 ++ wsX10 ++ wsX40)
def wsX5_last_r1 : List Cond := [Cond.fieldLink RX5 29 "DayBench" "search" "LDayBench$Search;", Cond.fieldLink RX5 145 "DayBench$Search" "latest" "[I", Cond.methodLink RX5 139 yX5_askAllWays, Cond.instanceMethod yX5_askAllWays, Cond.selects RX5 yX5_askAllWays yX5_askAllWays, Cond.initialized RX5, Cond.code yX5_askAllWays cX5_askAllWays 3 (some .int), Cond.fieldLink RX5 71 "DayBench" "events" "I", Cond.fieldLink RX5 21 "DayBench" "sayings" "[LDayBench$Saying;", Cond.methodLink RX5 77 yX5_isEvent, Cond.instanceMethod yX5_isEvent, Cond.selects RX5 yX5_isEvent yX5_isEvent, Cond.code yX5_isEvent cX5_isEvent 2 (some .boolean), Cond.methodLink RX5 151 yX2_begin, Cond.instanceMethod yX2_begin, Cond.selects RX2 yX2_begin yX2_begin, Cond.initialized RX2, Cond.code yX2_begin cX2_begin 2 none, Cond.methodLink RX2 43 Lib.Math.min.name, Cond.static Lib.Math.min.name, Cond.initialized "java/lang/Math", Cond.code Lib.Math.min.name Lib.Math.min.code 2 (some .int), Cond.fieldLink RX2 49 "DayBench$Search" "events" "I", Cond.fieldLink RX2 53 "DayBench$Search" "looks" "I"]
def wsX5_last_r2 : List Cond := [Cond.fieldLink RX2 56 "DayBench$Search" "spent" "Z", Cond.methodLink RX5 154 yX5_takenSet, Cond.instanceMethod yX5_takenSet, Cond.selects RX5 yX5_takenSet yX5_takenSet, Cond.code yX5_takenSet cX5_takenSet 3 (some .int), Cond.fieldLink RX5 74 "DayBench" "sayingsMade" "I", Cond.fieldLink RX5 113 "DayBench$Saying" "taken" "Z", Cond.methodLink RX5 158 yX2_lay, Cond.instanceMethod yX2_lay, Cond.selects RX2 yX2_lay yX2_lay, Cond.code yX2_lay cX2_lay 4 none, Cond.fieldLink RX2 63 "DayBench$Saying" "what" "I", Cond.fieldLink RX2 72 "DayBench$Saying" "event" "I", Cond.fieldLink RX2 75 "DayBench$Saying" "spans" "LDayBench$Spans;", Cond.fieldLink RX2 85 "DayBench$Search" "together" "Z", Cond.methodLink RX2 60 yX2_clearTable, Cond.instanceMethod yX2_clearTable, Cond.selects RX2 yX2_clearTable yX2_clearTable, Cond.code yX2_clearTable cX2_clearTable 3 none, Cond.fieldLink RX2 20 "DayBench$Search" "spans" "[LDayBench$Spans;", Cond.constant RX2 94 (985999), Cond.fieldLink RX2 34 "DayBench$Search" "apart" "[[I", Cond.methodLink RX2 91 yX4_clear, Cond.instanceMethod yX4_clear]
def wsX5_last_r3 : List Cond := [Cond.selects RX4 yX4_clear yX4_clear, Cond.initialized RX4, Cond.code yX4_clear cX4_clear 1 none, Cond.fieldLink RX4 18 "DayBench$Spans" "size" "I", Cond.methodLink RX2 95 yX4_add, Cond.instanceMethod yX4_add, Cond.selects RX4 yX4_add yX4_add, Cond.code yX4_add cX4_add 5 none, Cond.methodLink RX4 22 Lib.Math.max.name, Cond.static Lib.Math.max.name, Cond.code Lib.Math.max.name Lib.Math.max.code 2 (some .int), Cond.constant RX4 28 (985999), Cond.methodLink RX4 29 Lib.Math.min.name, Cond.fieldLink RX4 9 "DayBench$Spans" "from" "[I", Cond.fieldLink RX4 15 "DayBench$Spans" "to" "[I", Cond.methodLink RX2 68 yX2_layBehind, Cond.instanceMethod yX2_layBehind, Cond.selects RX2 yX2_layBehind yX2_layBehind, Cond.code yX2_layBehind cX2_layBehind 4 none, Cond.fieldLink RX2 99 "DayBench$Saying" "behindEvent" "I", Cond.fieldLink RX2 102 "DayBench$Saying" "mostBehind" "I", Cond.fieldLink RX2 105 "DayBench$Saying" "leastBehind" "I", Cond.methodLink RX2 77 yX2_keepCommon, Cond.instanceMethod yX2_keepCommon]
def wsX5_last_r4 : List Cond := [Cond.selects RX2 yX2_keepCommon yX2_keepCommon, Cond.code yX2_keepCommon cX2_keepCommon 4 none, Cond.fieldLink RX2 25 "DayBench$Search" "spare" "LDayBench$Spans;", Cond.methodLink RX2 108 yX4_setToCommon, Cond.instanceMethod yX4_setToCommon, Cond.selects RX4 yX4_setToCommon yX4_setToCommon, Cond.code yX4_setToCommon cX4_setToCommon 5 none, Cond.methodLink RX4 32 yX4_clear, Cond.methodLink RX4 35 yX4_add, Cond.methodLink RX2 81 yX2_closeApart, Cond.instanceMethod yX2_closeApart, Cond.selects RX2 yX2_closeApart yX2_closeApart, Cond.code yX2_closeApart cX2_closeApart 4 (some .boolean), Cond.methodLink RX2 88 yX2_boundDays, Cond.instanceMethod yX2_boundDays, Cond.selects RX2 yX2_boundDays yX2_boundDays, Cond.code yX2_boundDays cX2_boundDays 3 none, Cond.fieldLink RX2 37 "DayBench$Search" "low" "[[I", Cond.fieldLink RX2 40 "DayBench$Search" "high" "[[I", Cond.methodLink RX2 112 Lib.Math.max.name, Cond.methodLink RX5 166 yX2_run, Cond.instanceMethod yX2_run, Cond.selects RX2 yX2_run yX2_run, Cond.code yX2_run cX2_run 2 (some .int)]
def wsX5_last_r5 : List Cond := [Cond.fieldLink RX2 115 "DayBench$Search" "tillOne" "Z", Cond.fieldLink RX2 118 "DayBench$Search" "found" "Z", Cond.methodLink RX2 121 yX2_takeSpans, Cond.instanceMethod yX2_takeSpans, Cond.selects RX2 yX2_takeSpans yX2_takeSpans, Cond.code yX2_takeSpans cX2_takeSpans 3 none, Cond.fieldLink RX2 128 "DayBench$Spans" "size" "I", Cond.fieldLink RX2 131 "DayBench$Spans" "from" "[I", Cond.fieldLink RX2 134 "DayBench$Spans" "to" "[I", Cond.methodLink RX2 125 yX2_noteWay, Cond.instanceMethod yX2_noteWay, Cond.selects RX2 yX2_noteWay yX2_noteWay, Cond.code yX2_noteWay cX2_noteWay 4 none, Cond.fieldLink RX2 9 "DayBench$Search" "earliest" "[I", Cond.fieldLink RX2 15 "DayBench$Search" "latest" "[I", Cond.methodLink RX2 137 yX2_narrow, Cond.instanceMethod yX2_narrow, Cond.selects RX2 yX2_narrow yX2_narrow, Cond.code yX2_narrow cX2_narrow 7 (some .boolean)]
def wsX5_last : List Cond := .code yX5_last cX5_last 3 (some .int) :: ((wsX5_last_r1 ++ (wsX5_last_r2 ++ (wsX5_last_r3 ++ (wsX5_last_r4 ++ wsX5_last_r5)))) ++ wsX50 ++ wsX20 ++ wsX10 ++ wsX40)
def wsX5_can_r1 : List Cond := [Cond.fieldLink RX5 29 "DayBench" "search" "LDayBench$Search;", Cond.fieldLink RX5 71 "DayBench" "events" "I", Cond.fieldLink RX5 21 "DayBench" "sayings" "[LDayBench$Saying;", Cond.methodLink RX5 77 yX5_isEvent, Cond.instanceMethod yX5_isEvent, Cond.selects RX5 yX5_isEvent yX5_isEvent, Cond.initialized RX5, Cond.code yX5_isEvent cX5_isEvent 2 (some .boolean), Cond.methodLink RX5 148 yX5_isDay, Cond.static yX5_isDay, Cond.code yX5_isDay cX5_isDay 1 (some .boolean), Cond.constant RX5 225 (985999), Cond.methodLink RX5 151 yX2_begin, Cond.instanceMethod yX2_begin, Cond.selects RX2 yX2_begin yX2_begin, Cond.initialized RX2, Cond.code yX2_begin cX2_begin 2 none, Cond.methodLink RX2 43 Lib.Math.min.name, Cond.static Lib.Math.min.name, Cond.initialized "java/lang/Math", Cond.code Lib.Math.min.name Lib.Math.min.code 2 (some .int), Cond.fieldLink RX2 49 "DayBench$Search" "events" "I", Cond.fieldLink RX2 53 "DayBench$Search" "looks" "I", Cond.fieldLink RX2 56 "DayBench$Search" "spent" "Z"]
def wsX5_can_r2 : List Cond := [Cond.methodLink RX5 154 yX5_takenSet, Cond.instanceMethod yX5_takenSet, Cond.selects RX5 yX5_takenSet yX5_takenSet, Cond.code yX5_takenSet cX5_takenSet 3 (some .int), Cond.fieldLink RX5 74 "DayBench" "sayingsMade" "I", Cond.fieldLink RX5 113 "DayBench$Saying" "taken" "Z", Cond.methodLink RX5 158 yX2_lay, Cond.instanceMethod yX2_lay, Cond.selects RX2 yX2_lay yX2_lay, Cond.code yX2_lay cX2_lay 4 none, Cond.fieldLink RX2 63 "DayBench$Saying" "what" "I", Cond.fieldLink RX2 72 "DayBench$Saying" "event" "I", Cond.fieldLink RX2 75 "DayBench$Saying" "spans" "LDayBench$Spans;", Cond.fieldLink RX2 85 "DayBench$Search" "together" "Z", Cond.methodLink RX2 60 yX2_clearTable, Cond.instanceMethod yX2_clearTable, Cond.selects RX2 yX2_clearTable yX2_clearTable, Cond.code yX2_clearTable cX2_clearTable 3 none, Cond.fieldLink RX2 20 "DayBench$Search" "spans" "[LDayBench$Spans;", Cond.constant RX2 94 (985999), Cond.fieldLink RX2 34 "DayBench$Search" "apart" "[[I", Cond.methodLink RX2 91 yX4_clear, Cond.instanceMethod yX4_clear, Cond.selects RX4 yX4_clear yX4_clear]
def wsX5_can_r3 : List Cond := [Cond.initialized RX4, Cond.code yX4_clear cX4_clear 1 none, Cond.fieldLink RX4 18 "DayBench$Spans" "size" "I", Cond.methodLink RX2 95 yX4_add, Cond.instanceMethod yX4_add, Cond.selects RX4 yX4_add yX4_add, Cond.code yX4_add cX4_add 5 none, Cond.methodLink RX4 22 Lib.Math.max.name, Cond.static Lib.Math.max.name, Cond.code Lib.Math.max.name Lib.Math.max.code 2 (some .int), Cond.constant RX4 28 (985999), Cond.methodLink RX4 29 Lib.Math.min.name, Cond.fieldLink RX4 9 "DayBench$Spans" "from" "[I", Cond.fieldLink RX4 15 "DayBench$Spans" "to" "[I", Cond.methodLink RX2 68 yX2_layBehind, Cond.instanceMethod yX2_layBehind, Cond.selects RX2 yX2_layBehind yX2_layBehind, Cond.code yX2_layBehind cX2_layBehind 4 none, Cond.fieldLink RX2 99 "DayBench$Saying" "behindEvent" "I", Cond.fieldLink RX2 102 "DayBench$Saying" "mostBehind" "I", Cond.fieldLink RX2 105 "DayBench$Saying" "leastBehind" "I", Cond.methodLink RX2 77 yX2_keepCommon, Cond.instanceMethod yX2_keepCommon, Cond.selects RX2 yX2_keepCommon yX2_keepCommon]
def wsX5_can_r4 : List Cond := [Cond.code yX2_keepCommon cX2_keepCommon 4 none, Cond.fieldLink RX2 25 "DayBench$Search" "spare" "LDayBench$Spans;", Cond.methodLink RX2 108 yX4_setToCommon, Cond.instanceMethod yX4_setToCommon, Cond.selects RX4 yX4_setToCommon yX4_setToCommon, Cond.code yX4_setToCommon cX4_setToCommon 5 none, Cond.methodLink RX4 32 yX4_clear, Cond.methodLink RX4 35 yX4_add, Cond.methodLink RX2 81 yX2_closeApart, Cond.instanceMethod yX2_closeApart, Cond.selects RX2 yX2_closeApart yX2_closeApart, Cond.code yX2_closeApart cX2_closeApart 4 (some .boolean), Cond.methodLink RX2 88 yX2_boundDays, Cond.instanceMethod yX2_boundDays, Cond.selects RX2 yX2_boundDays yX2_boundDays, Cond.code yX2_boundDays cX2_boundDays 3 none, Cond.fieldLink RX2 37 "DayBench$Search" "low" "[[I", Cond.fieldLink RX2 40 "DayBench$Search" "high" "[[I", Cond.methodLink RX2 112 Lib.Math.max.name, Cond.methodLink RX5 162 yX2_find, Cond.instanceMethod yX2_find, Cond.selects RX2 yX2_find yX2_find, Cond.code yX2_find cX2_find 3 none, Cond.fieldLink RX2 29 "DayBench$Search" "findSpan" "LDayBench$Spans;"]
def wsX5_can_r5 : List Cond := [Cond.methodLink RX5 166 yX2_run, Cond.instanceMethod yX2_run, Cond.selects RX2 yX2_run yX2_run, Cond.code yX2_run cX2_run 2 (some .int), Cond.fieldLink RX2 115 "DayBench$Search" "tillOne" "Z", Cond.fieldLink RX2 118 "DayBench$Search" "found" "Z", Cond.methodLink RX2 121 yX2_takeSpans, Cond.instanceMethod yX2_takeSpans, Cond.selects RX2 yX2_takeSpans yX2_takeSpans, Cond.code yX2_takeSpans cX2_takeSpans 3 none, Cond.fieldLink RX2 128 "DayBench$Spans" "size" "I", Cond.fieldLink RX2 131 "DayBench$Spans" "from" "[I", Cond.fieldLink RX2 134 "DayBench$Spans" "to" "[I", Cond.methodLink RX2 125 yX2_noteWay, Cond.instanceMethod yX2_noteWay, Cond.selects RX2 yX2_noteWay yX2_noteWay, Cond.code yX2_noteWay cX2_noteWay 4 none, Cond.fieldLink RX2 9 "DayBench$Search" "earliest" "[I", Cond.fieldLink RX2 15 "DayBench$Search" "latest" "[I", Cond.methodLink RX2 137 yX2_narrow, Cond.instanceMethod yX2_narrow, Cond.selects RX2 yX2_narrow yX2_narrow, Cond.code yX2_narrow cX2_narrow 7 (some .boolean)]
def wsX5_can : List Cond := .code yX5_can cX5_can 3 (some .int) :: ((wsX5_can_r1 ++ (wsX5_can_r2 ++ (wsX5_can_r3 ++ (wsX5_can_r4 ++ wsX5_can_r5)))) ++ wsX50 ++ wsX20 ++ wsX10 ++ wsX40)
def wsX5_askSet_r1 : List Cond := [Cond.fieldLink RX5 29 "DayBench" "search" "LDayBench$Search;", Cond.fieldLink RX5 21 "DayBench" "sayings" "[LDayBench$Saying;", Cond.methodLink RX5 158 yX2_lay, Cond.instanceMethod yX2_lay, Cond.selects RX2 yX2_lay yX2_lay, Cond.initialized RX2, Cond.code yX2_lay cX2_lay 4 none, Cond.fieldLink RX2 63 "DayBench$Saying" "what" "I", Cond.fieldLink RX2 72 "DayBench$Saying" "event" "I", Cond.fieldLink RX2 75 "DayBench$Saying" "spans" "LDayBench$Spans;", Cond.fieldLink RX2 85 "DayBench$Search" "together" "Z", Cond.methodLink RX2 60 yX2_clearTable, Cond.instanceMethod yX2_clearTable, Cond.selects RX2 yX2_clearTable yX2_clearTable, Cond.code yX2_clearTable cX2_clearTable 3 none, Cond.fieldLink RX2 49 "DayBench$Search" "events" "I", Cond.fieldLink RX2 20 "DayBench$Search" "spans" "[LDayBench$Spans;", Cond.constant RX2 94 (985999), Cond.fieldLink RX2 34 "DayBench$Search" "apart" "[[I", Cond.methodLink RX2 91 yX4_clear, Cond.instanceMethod yX4_clear, Cond.selects RX4 yX4_clear yX4_clear, Cond.initialized RX4, Cond.code yX4_clear cX4_clear 1 none]
def wsX5_askSet_r2 : List Cond := [Cond.fieldLink RX4 18 "DayBench$Spans" "size" "I", Cond.methodLink RX2 95 yX4_add, Cond.instanceMethod yX4_add, Cond.selects RX4 yX4_add yX4_add, Cond.code yX4_add cX4_add 5 none, Cond.methodLink RX4 22 Lib.Math.max.name, Cond.static Lib.Math.max.name, Cond.initialized "java/lang/Math", Cond.code Lib.Math.max.name Lib.Math.max.code 2 (some .int), Cond.constant RX4 28 (985999), Cond.methodLink RX4 29 Lib.Math.min.name, Cond.static Lib.Math.min.name, Cond.code Lib.Math.min.name Lib.Math.min.code 2 (some .int), Cond.fieldLink RX4 9 "DayBench$Spans" "from" "[I", Cond.fieldLink RX4 15 "DayBench$Spans" "to" "[I", Cond.methodLink RX2 68 yX2_layBehind, Cond.instanceMethod yX2_layBehind, Cond.selects RX2 yX2_layBehind yX2_layBehind, Cond.code yX2_layBehind cX2_layBehind 4 none, Cond.fieldLink RX2 99 "DayBench$Saying" "behindEvent" "I", Cond.fieldLink RX2 102 "DayBench$Saying" "mostBehind" "I", Cond.methodLink RX2 43 Lib.Math.min.name, Cond.fieldLink RX2 105 "DayBench$Saying" "leastBehind" "I", Cond.methodLink RX2 77 yX2_keepCommon]
def wsX5_askSet_r3 : List Cond := [Cond.instanceMethod yX2_keepCommon, Cond.selects RX2 yX2_keepCommon yX2_keepCommon, Cond.code yX2_keepCommon cX2_keepCommon 4 none, Cond.fieldLink RX2 25 "DayBench$Search" "spare" "LDayBench$Spans;", Cond.methodLink RX2 108 yX4_setToCommon, Cond.instanceMethod yX4_setToCommon, Cond.selects RX4 yX4_setToCommon yX4_setToCommon, Cond.code yX4_setToCommon cX4_setToCommon 5 none, Cond.methodLink RX4 32 yX4_clear, Cond.methodLink RX4 35 yX4_add, Cond.methodLink RX2 81 yX2_closeApart, Cond.instanceMethod yX2_closeApart, Cond.selects RX2 yX2_closeApart yX2_closeApart, Cond.code yX2_closeApart cX2_closeApart 4 (some .boolean), Cond.methodLink RX2 88 yX2_boundDays, Cond.instanceMethod yX2_boundDays, Cond.selects RX2 yX2_boundDays yX2_boundDays, Cond.code yX2_boundDays cX2_boundDays 3 none, Cond.fieldLink RX2 37 "DayBench$Search" "low" "[[I", Cond.fieldLink RX2 40 "DayBench$Search" "high" "[[I", Cond.methodLink RX2 112 Lib.Math.max.name, Cond.methodLink RX5 166 yX2_run, Cond.instanceMethod yX2_run, Cond.selects RX2 yX2_run yX2_run]
def wsX5_askSet_r4 : List Cond := [Cond.code yX2_run cX2_run 2 (some .int), Cond.fieldLink RX2 115 "DayBench$Search" "tillOne" "Z", Cond.fieldLink RX2 118 "DayBench$Search" "found" "Z", Cond.fieldLink RX2 56 "DayBench$Search" "spent" "Z", Cond.methodLink RX2 121 yX2_takeSpans, Cond.instanceMethod yX2_takeSpans, Cond.selects RX2 yX2_takeSpans yX2_takeSpans, Cond.code yX2_takeSpans cX2_takeSpans 3 none, Cond.fieldLink RX2 128 "DayBench$Spans" "size" "I", Cond.fieldLink RX2 53 "DayBench$Search" "looks" "I", Cond.fieldLink RX2 131 "DayBench$Spans" "from" "[I", Cond.fieldLink RX2 134 "DayBench$Spans" "to" "[I", Cond.methodLink RX2 125 yX2_noteWay, Cond.instanceMethod yX2_noteWay, Cond.selects RX2 yX2_noteWay yX2_noteWay, Cond.code yX2_noteWay cX2_noteWay 4 none, Cond.fieldLink RX2 9 "DayBench$Search" "earliest" "[I", Cond.fieldLink RX2 15 "DayBench$Search" "latest" "[I", Cond.methodLink RX2 137 yX2_narrow, Cond.instanceMethod yX2_narrow, Cond.selects RX2 yX2_narrow yX2_narrow, Cond.code yX2_narrow cX2_narrow 7 (some .boolean)]
def wsX5_askSet : List Cond := .code yX5_askSet cX5_askSet 2 (some .int) :: ((wsX5_askSet_r1 ++ (wsX5_askSet_r2 ++ (wsX5_askSet_r3 ++ wsX5_askSet_r4))) ++ wsX50 ++ wsX10 ++ wsX20 ++ wsX40)
def wsX5_agrees_r1 : List Cond := [Cond.fieldLink RX5 29 "DayBench" "search" "LDayBench$Search;", Cond.fieldLink RX5 71 "DayBench" "events" "I", Cond.methodLink RX5 151 yX2_begin, Cond.instanceMethod yX2_begin, Cond.selects RX2 yX2_begin yX2_begin, Cond.initialized RX2, Cond.code yX2_begin cX2_begin 2 none, Cond.methodLink RX2 43 Lib.Math.min.name, Cond.static Lib.Math.min.name, Cond.initialized "java/lang/Math", Cond.code Lib.Math.min.name Lib.Math.min.code 2 (some .int), Cond.fieldLink RX2 49 "DayBench$Search" "events" "I", Cond.fieldLink RX2 53 "DayBench$Search" "looks" "I", Cond.fieldLink RX2 56 "DayBench$Search" "spent" "Z", Cond.methodLink RX5 154 yX5_takenSet, Cond.instanceMethod yX5_takenSet, Cond.selects RX5 yX5_takenSet yX5_takenSet, Cond.initialized RX5, Cond.code yX5_takenSet cX5_takenSet 3 (some .int), Cond.fieldLink RX5 74 "DayBench" "sayingsMade" "I", Cond.fieldLink RX5 21 "DayBench" "sayings" "[LDayBench$Saying;", Cond.fieldLink RX5 113 "DayBench$Saying" "taken" "Z", Cond.methodLink RX5 170 yX5_askSet, Cond.instanceMethod yX5_askSet]
def wsX5_agrees_r2 : List Cond := [Cond.selects RX5 yX5_askSet yX5_askSet, Cond.code yX5_askSet cX5_askSet 2 (some .int), Cond.methodLink RX5 158 yX2_lay, Cond.instanceMethod yX2_lay, Cond.selects RX2 yX2_lay yX2_lay, Cond.code yX2_lay cX2_lay 4 none, Cond.fieldLink RX2 63 "DayBench$Saying" "what" "I", Cond.fieldLink RX2 72 "DayBench$Saying" "event" "I", Cond.fieldLink RX2 75 "DayBench$Saying" "spans" "LDayBench$Spans;", Cond.fieldLink RX2 85 "DayBench$Search" "together" "Z", Cond.methodLink RX2 60 yX2_clearTable, Cond.instanceMethod yX2_clearTable, Cond.selects RX2 yX2_clearTable yX2_clearTable, Cond.code yX2_clearTable cX2_clearTable 3 none, Cond.fieldLink RX2 20 "DayBench$Search" "spans" "[LDayBench$Spans;", Cond.constant RX2 94 (985999), Cond.fieldLink RX2 34 "DayBench$Search" "apart" "[[I", Cond.methodLink RX2 91 yX4_clear, Cond.instanceMethod yX4_clear, Cond.selects RX4 yX4_clear yX4_clear, Cond.initialized RX4, Cond.code yX4_clear cX4_clear 1 none, Cond.fieldLink RX4 18 "DayBench$Spans" "size" "I", Cond.methodLink RX2 95 yX4_add]
def wsX5_agrees_r3 : List Cond := [Cond.instanceMethod yX4_add, Cond.selects RX4 yX4_add yX4_add, Cond.code yX4_add cX4_add 5 none, Cond.methodLink RX4 22 Lib.Math.max.name, Cond.static Lib.Math.max.name, Cond.code Lib.Math.max.name Lib.Math.max.code 2 (some .int), Cond.constant RX4 28 (985999), Cond.methodLink RX4 29 Lib.Math.min.name, Cond.fieldLink RX4 9 "DayBench$Spans" "from" "[I", Cond.fieldLink RX4 15 "DayBench$Spans" "to" "[I", Cond.methodLink RX2 68 yX2_layBehind, Cond.instanceMethod yX2_layBehind, Cond.selects RX2 yX2_layBehind yX2_layBehind, Cond.code yX2_layBehind cX2_layBehind 4 none, Cond.fieldLink RX2 99 "DayBench$Saying" "behindEvent" "I", Cond.fieldLink RX2 102 "DayBench$Saying" "mostBehind" "I", Cond.fieldLink RX2 105 "DayBench$Saying" "leastBehind" "I", Cond.methodLink RX2 77 yX2_keepCommon, Cond.instanceMethod yX2_keepCommon, Cond.selects RX2 yX2_keepCommon yX2_keepCommon, Cond.code yX2_keepCommon cX2_keepCommon 4 none, Cond.fieldLink RX2 25 "DayBench$Search" "spare" "LDayBench$Spans;", Cond.methodLink RX2 108 yX4_setToCommon, Cond.instanceMethod yX4_setToCommon]
def wsX5_agrees_r4 : List Cond := [Cond.selects RX4 yX4_setToCommon yX4_setToCommon, Cond.code yX4_setToCommon cX4_setToCommon 5 none, Cond.methodLink RX4 32 yX4_clear, Cond.methodLink RX4 35 yX4_add, Cond.methodLink RX2 81 yX2_closeApart, Cond.instanceMethod yX2_closeApart, Cond.selects RX2 yX2_closeApart yX2_closeApart, Cond.code yX2_closeApart cX2_closeApart 4 (some .boolean), Cond.methodLink RX2 88 yX2_boundDays, Cond.instanceMethod yX2_boundDays, Cond.selects RX2 yX2_boundDays yX2_boundDays, Cond.code yX2_boundDays cX2_boundDays 3 none, Cond.fieldLink RX2 37 "DayBench$Search" "low" "[[I", Cond.fieldLink RX2 40 "DayBench$Search" "high" "[[I", Cond.methodLink RX2 112 Lib.Math.max.name, Cond.methodLink RX5 166 yX2_run, Cond.instanceMethod yX2_run, Cond.selects RX2 yX2_run yX2_run, Cond.code yX2_run cX2_run 2 (some .int), Cond.fieldLink RX2 115 "DayBench$Search" "tillOne" "Z", Cond.fieldLink RX2 118 "DayBench$Search" "found" "Z", Cond.methodLink RX2 121 yX2_takeSpans, Cond.instanceMethod yX2_takeSpans, Cond.selects RX2 yX2_takeSpans yX2_takeSpans]
def wsX5_agrees_r5 : List Cond := [Cond.code yX2_takeSpans cX2_takeSpans 3 none, Cond.fieldLink RX2 128 "DayBench$Spans" "size" "I", Cond.fieldLink RX2 131 "DayBench$Spans" "from" "[I", Cond.fieldLink RX2 134 "DayBench$Spans" "to" "[I", Cond.methodLink RX2 125 yX2_noteWay, Cond.instanceMethod yX2_noteWay, Cond.selects RX2 yX2_noteWay yX2_noteWay, Cond.code yX2_noteWay cX2_noteWay 4 none, Cond.fieldLink RX2 9 "DayBench$Search" "earliest" "[I", Cond.fieldLink RX2 15 "DayBench$Search" "latest" "[I", Cond.methodLink RX2 137 yX2_narrow, Cond.instanceMethod yX2_narrow, Cond.selects RX2 yX2_narrow yX2_narrow, Cond.code yX2_narrow cX2_narrow 7 (some .boolean)]
def wsX5_agrees : List Cond := .code yX5_agrees cX5_agrees 1 (some .int) :: ((wsX5_agrees_r1 ++ (wsX5_agrees_r2 ++ (wsX5_agrees_r3 ++ (wsX5_agrees_r4 ++ wsX5_agrees_r5)))) ++ wsX50 ++ wsX20 ++ wsX10 ++ wsX40)
def wsX5_quarrelWith_r1 : List Cond := [Cond.fieldLink RX5 74 "DayBench" "sayingsMade" "I", Cond.methodLink RX5 170 yX5_askSet, Cond.instanceMethod yX5_askSet, Cond.selects RX5 yX5_askSet yX5_askSet, Cond.initialized RX5, Cond.code yX5_askSet cX5_askSet 2 (some .int), Cond.fieldLink RX5 29 "DayBench" "search" "LDayBench$Search;", Cond.fieldLink RX5 21 "DayBench" "sayings" "[LDayBench$Saying;", Cond.methodLink RX5 158 yX2_lay, Cond.instanceMethod yX2_lay, Cond.selects RX2 yX2_lay yX2_lay, Cond.initialized RX2, Cond.code yX2_lay cX2_lay 4 none, Cond.fieldLink RX2 63 "DayBench$Saying" "what" "I", Cond.fieldLink RX2 72 "DayBench$Saying" "event" "I", Cond.fieldLink RX2 75 "DayBench$Saying" "spans" "LDayBench$Spans;", Cond.fieldLink RX2 85 "DayBench$Search" "together" "Z", Cond.methodLink RX2 60 yX2_clearTable, Cond.instanceMethod yX2_clearTable, Cond.selects RX2 yX2_clearTable yX2_clearTable, Cond.code yX2_clearTable cX2_clearTable 3 none, Cond.fieldLink RX2 49 "DayBench$Search" "events" "I", Cond.fieldLink RX2 20 "DayBench$Search" "spans" "[LDayBench$Spans;", Cond.constant RX2 94 (985999)]
def wsX5_quarrelWith_r2 : List Cond := [Cond.fieldLink RX2 34 "DayBench$Search" "apart" "[[I", Cond.methodLink RX2 91 yX4_clear, Cond.instanceMethod yX4_clear, Cond.selects RX4 yX4_clear yX4_clear, Cond.initialized RX4, Cond.code yX4_clear cX4_clear 1 none, Cond.fieldLink RX4 18 "DayBench$Spans" "size" "I", Cond.methodLink RX2 95 yX4_add, Cond.instanceMethod yX4_add, Cond.selects RX4 yX4_add yX4_add, Cond.code yX4_add cX4_add 5 none, Cond.methodLink RX4 22 Lib.Math.max.name, Cond.static Lib.Math.max.name, Cond.initialized "java/lang/Math", Cond.code Lib.Math.max.name Lib.Math.max.code 2 (some .int), Cond.constant RX4 28 (985999), Cond.methodLink RX4 29 Lib.Math.min.name, Cond.static Lib.Math.min.name, Cond.code Lib.Math.min.name Lib.Math.min.code 2 (some .int), Cond.fieldLink RX4 9 "DayBench$Spans" "from" "[I", Cond.fieldLink RX4 15 "DayBench$Spans" "to" "[I", Cond.methodLink RX2 68 yX2_layBehind, Cond.instanceMethod yX2_layBehind, Cond.selects RX2 yX2_layBehind yX2_layBehind]
def wsX5_quarrelWith_r3 : List Cond := [Cond.code yX2_layBehind cX2_layBehind 4 none, Cond.fieldLink RX2 99 "DayBench$Saying" "behindEvent" "I", Cond.fieldLink RX2 102 "DayBench$Saying" "mostBehind" "I", Cond.methodLink RX2 43 Lib.Math.min.name, Cond.fieldLink RX2 105 "DayBench$Saying" "leastBehind" "I", Cond.methodLink RX2 77 yX2_keepCommon, Cond.instanceMethod yX2_keepCommon, Cond.selects RX2 yX2_keepCommon yX2_keepCommon, Cond.code yX2_keepCommon cX2_keepCommon 4 none, Cond.fieldLink RX2 25 "DayBench$Search" "spare" "LDayBench$Spans;", Cond.methodLink RX2 108 yX4_setToCommon, Cond.instanceMethod yX4_setToCommon, Cond.selects RX4 yX4_setToCommon yX4_setToCommon, Cond.code yX4_setToCommon cX4_setToCommon 5 none, Cond.methodLink RX4 32 yX4_clear, Cond.methodLink RX4 35 yX4_add, Cond.methodLink RX2 81 yX2_closeApart, Cond.instanceMethod yX2_closeApart, Cond.selects RX2 yX2_closeApart yX2_closeApart, Cond.code yX2_closeApart cX2_closeApart 4 (some .boolean), Cond.methodLink RX2 88 yX2_boundDays, Cond.instanceMethod yX2_boundDays, Cond.selects RX2 yX2_boundDays yX2_boundDays, Cond.code yX2_boundDays cX2_boundDays 3 none]
def wsX5_quarrelWith_r4 : List Cond := [Cond.fieldLink RX2 37 "DayBench$Search" "low" "[[I", Cond.fieldLink RX2 40 "DayBench$Search" "high" "[[I", Cond.methodLink RX2 112 Lib.Math.max.name, Cond.methodLink RX5 166 yX2_run, Cond.instanceMethod yX2_run, Cond.selects RX2 yX2_run yX2_run, Cond.code yX2_run cX2_run 2 (some .int), Cond.fieldLink RX2 115 "DayBench$Search" "tillOne" "Z", Cond.fieldLink RX2 118 "DayBench$Search" "found" "Z", Cond.fieldLink RX2 56 "DayBench$Search" "spent" "Z", Cond.methodLink RX2 121 yX2_takeSpans, Cond.instanceMethod yX2_takeSpans, Cond.selects RX2 yX2_takeSpans yX2_takeSpans, Cond.code yX2_takeSpans cX2_takeSpans 3 none, Cond.fieldLink RX2 128 "DayBench$Spans" "size" "I", Cond.fieldLink RX2 53 "DayBench$Search" "looks" "I", Cond.fieldLink RX2 131 "DayBench$Spans" "from" "[I", Cond.fieldLink RX2 134 "DayBench$Spans" "to" "[I", Cond.methodLink RX2 125 yX2_noteWay, Cond.instanceMethod yX2_noteWay, Cond.selects RX2 yX2_noteWay yX2_noteWay, Cond.code yX2_noteWay cX2_noteWay 4 none, Cond.fieldLink RX2 9 "DayBench$Search" "earliest" "[I", Cond.fieldLink RX2 15 "DayBench$Search" "latest" "[I"]
def wsX5_quarrelWith_r5 : List Cond := [Cond.methodLink RX2 137 yX2_narrow, Cond.instanceMethod yX2_narrow, Cond.selects RX2 yX2_narrow yX2_narrow, Cond.code yX2_narrow cX2_narrow 7 (some .boolean), Cond.methodLink RX5 173 yX5_quarrelWith, Cond.instanceMethod yX5_quarrelWith, Cond.selects RX5 yX5_quarrelWith yX5_quarrelWith]
def wsX5_quarrelWith : List Cond := .code yX5_quarrelWith cX5_quarrelWith 7 (some .int) :: ((wsX5_quarrelWith_r1 ++ (wsX5_quarrelWith_r2 ++ (wsX5_quarrelWith_r3 ++ (wsX5_quarrelWith_r4 ++ wsX5_quarrelWith_r5)))) ++ wsX50 ++ wsX10 ++ wsX20 ++ wsX40)
def wsX5_quarrel_r1 : List Cond := [Cond.fieldLink RX5 29 "DayBench" "search" "LDayBench$Search;", Cond.fieldLink RX5 71 "DayBench" "events" "I", Cond.fieldLink RX5 74 "DayBench" "sayingsMade" "I", Cond.methodLink RX5 154 yX5_takenSet, Cond.instanceMethod yX5_takenSet, Cond.selects RX5 yX5_takenSet yX5_takenSet, Cond.initialized RX5, Cond.code yX5_takenSet cX5_takenSet 3 (some .int), Cond.fieldLink RX5 21 "DayBench" "sayings" "[LDayBench$Saying;", Cond.fieldLink RX5 113 "DayBench$Saying" "taken" "Z", Cond.methodLink RX5 151 yX2_begin, Cond.instanceMethod yX2_begin, Cond.selects RX2 yX2_begin yX2_begin, Cond.initialized RX2, Cond.code yX2_begin cX2_begin 2 none, Cond.methodLink RX2 43 Lib.Math.min.name, Cond.static Lib.Math.min.name, Cond.initialized "java/lang/Math", Cond.code Lib.Math.min.name Lib.Math.min.code 2 (some .int), Cond.fieldLink RX2 49 "DayBench$Search" "events" "I", Cond.fieldLink RX2 53 "DayBench$Search" "looks" "I", Cond.fieldLink RX2 56 "DayBench$Search" "spent" "Z", Cond.methodLink RX5 170 yX5_askSet, Cond.instanceMethod yX5_askSet]
def wsX5_quarrel_r2 : List Cond := [Cond.selects RX5 yX5_askSet yX5_askSet, Cond.code yX5_askSet cX5_askSet 2 (some .int), Cond.methodLink RX5 158 yX2_lay, Cond.instanceMethod yX2_lay, Cond.selects RX2 yX2_lay yX2_lay, Cond.code yX2_lay cX2_lay 4 none, Cond.fieldLink RX2 63 "DayBench$Saying" "what" "I", Cond.fieldLink RX2 72 "DayBench$Saying" "event" "I", Cond.fieldLink RX2 75 "DayBench$Saying" "spans" "LDayBench$Spans;", Cond.fieldLink RX2 85 "DayBench$Search" "together" "Z", Cond.methodLink RX2 60 yX2_clearTable, Cond.instanceMethod yX2_clearTable, Cond.selects RX2 yX2_clearTable yX2_clearTable, Cond.code yX2_clearTable cX2_clearTable 3 none, Cond.fieldLink RX2 20 "DayBench$Search" "spans" "[LDayBench$Spans;", Cond.constant RX2 94 (985999), Cond.fieldLink RX2 34 "DayBench$Search" "apart" "[[I", Cond.methodLink RX2 91 yX4_clear, Cond.instanceMethod yX4_clear, Cond.selects RX4 yX4_clear yX4_clear, Cond.initialized RX4, Cond.code yX4_clear cX4_clear 1 none, Cond.fieldLink RX4 18 "DayBench$Spans" "size" "I", Cond.methodLink RX2 95 yX4_add]
def wsX5_quarrel_r3 : List Cond := [Cond.instanceMethod yX4_add, Cond.selects RX4 yX4_add yX4_add, Cond.code yX4_add cX4_add 5 none, Cond.methodLink RX4 22 Lib.Math.max.name, Cond.static Lib.Math.max.name, Cond.code Lib.Math.max.name Lib.Math.max.code 2 (some .int), Cond.constant RX4 28 (985999), Cond.methodLink RX4 29 Lib.Math.min.name, Cond.fieldLink RX4 9 "DayBench$Spans" "from" "[I", Cond.fieldLink RX4 15 "DayBench$Spans" "to" "[I", Cond.methodLink RX2 68 yX2_layBehind, Cond.instanceMethod yX2_layBehind, Cond.selects RX2 yX2_layBehind yX2_layBehind, Cond.code yX2_layBehind cX2_layBehind 4 none, Cond.fieldLink RX2 99 "DayBench$Saying" "behindEvent" "I", Cond.fieldLink RX2 102 "DayBench$Saying" "mostBehind" "I", Cond.fieldLink RX2 105 "DayBench$Saying" "leastBehind" "I", Cond.methodLink RX2 77 yX2_keepCommon, Cond.instanceMethod yX2_keepCommon, Cond.selects RX2 yX2_keepCommon yX2_keepCommon, Cond.code yX2_keepCommon cX2_keepCommon 4 none, Cond.fieldLink RX2 25 "DayBench$Search" "spare" "LDayBench$Spans;", Cond.methodLink RX2 108 yX4_setToCommon, Cond.instanceMethod yX4_setToCommon]
def wsX5_quarrel_r4 : List Cond := [Cond.selects RX4 yX4_setToCommon yX4_setToCommon, Cond.code yX4_setToCommon cX4_setToCommon 5 none, Cond.methodLink RX4 32 yX4_clear, Cond.methodLink RX4 35 yX4_add, Cond.methodLink RX2 81 yX2_closeApart, Cond.instanceMethod yX2_closeApart, Cond.selects RX2 yX2_closeApart yX2_closeApart, Cond.code yX2_closeApart cX2_closeApart 4 (some .boolean), Cond.methodLink RX2 88 yX2_boundDays, Cond.instanceMethod yX2_boundDays, Cond.selects RX2 yX2_boundDays yX2_boundDays, Cond.code yX2_boundDays cX2_boundDays 3 none, Cond.fieldLink RX2 37 "DayBench$Search" "low" "[[I", Cond.fieldLink RX2 40 "DayBench$Search" "high" "[[I", Cond.methodLink RX2 112 Lib.Math.max.name, Cond.methodLink RX5 166 yX2_run, Cond.instanceMethod yX2_run, Cond.selects RX2 yX2_run yX2_run, Cond.code yX2_run cX2_run 2 (some .int), Cond.fieldLink RX2 115 "DayBench$Search" "tillOne" "Z", Cond.fieldLink RX2 118 "DayBench$Search" "found" "Z", Cond.methodLink RX2 121 yX2_takeSpans, Cond.instanceMethod yX2_takeSpans, Cond.selects RX2 yX2_takeSpans yX2_takeSpans]
def wsX5_quarrel_r5 : List Cond := [Cond.code yX2_takeSpans cX2_takeSpans 3 none, Cond.fieldLink RX2 128 "DayBench$Spans" "size" "I", Cond.fieldLink RX2 131 "DayBench$Spans" "from" "[I", Cond.fieldLink RX2 134 "DayBench$Spans" "to" "[I", Cond.methodLink RX2 125 yX2_noteWay, Cond.instanceMethod yX2_noteWay, Cond.selects RX2 yX2_noteWay yX2_noteWay, Cond.code yX2_noteWay cX2_noteWay 4 none, Cond.fieldLink RX2 9 "DayBench$Search" "earliest" "[I", Cond.fieldLink RX2 15 "DayBench$Search" "latest" "[I", Cond.methodLink RX2 137 yX2_narrow, Cond.instanceMethod yX2_narrow, Cond.selects RX2 yX2_narrow yX2_narrow, Cond.code yX2_narrow cX2_narrow 7 (some .boolean), Cond.methodLink RX5 173 yX5_quarrelWith, Cond.instanceMethod yX5_quarrelWith, Cond.selects RX5 yX5_quarrelWith yX5_quarrelWith, Cond.code yX5_quarrelWith cX5_quarrelWith 7 (some .int)]
def wsX5_quarrel : List Cond := .code yX5_quarrel cX5_quarrel 5 (some .int) :: ((wsX5_quarrel_r1 ++ (wsX5_quarrel_r2 ++ (wsX5_quarrel_r3 ++ (wsX5_quarrel_r4 ++ wsX5_quarrel_r5)))) ++ wsX50 ++ wsX10 ++ wsX20 ++ wsX40)
def wsX5_gatherGroups_r1 : List Cond := [Cond.fieldLink RX5 36 "DayBench" "slipSets" "LDayBench$SlipSets;", Cond.fieldLink RX5 74 "DayBench" "sayingsMade" "I", Cond.fieldLink RX5 21 "DayBench" "sayings" "[LDayBench$Saying;", Cond.fieldLink RX5 123 "DayBench$Saying" "weight" "I", Cond.methodLink RX5 260 yX3_begin, Cond.instanceMethod yX3_begin, Cond.selects RX3 yX3_begin yX3_begin, Cond.initialized RX3, Cond.code yX3_begin cX3_begin 1 none, Cond.fieldLink RX3 27 "DayBench$SlipSets" "groups" "I", Cond.fieldLink RX3 31 "DayBench$SlipSets" "size" "I", Cond.fieldLink RX3 34 "DayBench$SlipSets" "least" "I", Cond.methodLink RX5 126 yX5_rootOf, Cond.instanceMethod yX5_rootOf, Cond.selects RX5 yX5_rootOf yX5_rootOf, Cond.initialized RX5, Cond.code yX5_rootOf cX5_rootOf 4 (some .int), Cond.fieldLink RX5 110 "DayBench$Saying" "copyOf" "I", Cond.methodLink RX5 262 yX3_addGroup, Cond.instanceMethod yX3_addGroup, Cond.selects RX3 yX3_addGroup yX3_addGroup, Cond.code yX3_addGroup cX3_addGroup 4 none, Cond.fieldLink RX3 15 "DayBench$SlipSets" "root" "[I", Cond.fieldLink RX3 18 "DayBench$SlipSets" "members" "[I"]
def wsX5_gatherGroups_r2 : List Cond := [Cond.fieldLink RX3 21 "DayBench$SlipSets" "weight" "[I"]
def wsX5_gatherGroups : List Cond := .code yX5_gatherGroups cX5_gatherGroups 5 none :: ((wsX5_gatherGroups_r1 ++ wsX5_gatherGroups_r2) ++ wsX50 ++ wsX10 ++ wsX30)
def wsX5_slips_r1 : List Cond := [Cond.fieldLink RX5 29 "DayBench" "search" "LDayBench$Search;", Cond.fieldLink RX5 71 "DayBench" "events" "I", Cond.fieldLink RX5 36 "DayBench" "slipSets" "LDayBench$SlipSets;", Cond.fieldLink RX5 179 "DayBench$SlipSets" "groups" "I", Cond.fieldLink RX5 200 "DayBench$SlipSets" "least" "I", Cond.methodLink RX5 154 yX5_takenSet, Cond.instanceMethod yX5_takenSet, Cond.selects RX5 yX5_takenSet yX5_takenSet, Cond.initialized RX5, Cond.code yX5_takenSet cX5_takenSet 3 (some .int), Cond.fieldLink RX5 74 "DayBench" "sayingsMade" "I", Cond.fieldLink RX5 21 "DayBench" "sayings" "[LDayBench$Saying;", Cond.fieldLink RX5 113 "DayBench$Saying" "taken" "Z", Cond.methodLink RX5 151 yX2_begin, Cond.instanceMethod yX2_begin, Cond.selects RX2 yX2_begin yX2_begin, Cond.initialized RX2, Cond.code yX2_begin cX2_begin 2 none, Cond.methodLink RX2 43 Lib.Math.min.name, Cond.static Lib.Math.min.name, Cond.initialized "java/lang/Math", Cond.code Lib.Math.min.name Lib.Math.min.code 2 (some .int), Cond.fieldLink RX2 49 "DayBench$Search" "events" "I", Cond.fieldLink RX2 53 "DayBench$Search" "looks" "I"]
def wsX5_slips_r2 : List Cond := [Cond.fieldLink RX2 56 "DayBench$Search" "spent" "Z", Cond.methodLink RX5 176 yX5_gatherGroups, Cond.instanceMethod yX5_gatherGroups, Cond.selects RX5 yX5_gatherGroups yX5_gatherGroups, Cond.code yX5_gatherGroups cX5_gatherGroups 5 none, Cond.fieldLink RX5 123 "DayBench$Saying" "weight" "I", Cond.methodLink RX5 260 yX3_begin, Cond.instanceMethod yX3_begin, Cond.selects RX3 yX3_begin yX3_begin, Cond.initialized RX3, Cond.code yX3_begin cX3_begin 1 none, Cond.fieldLink RX3 27 "DayBench$SlipSets" "groups" "I", Cond.fieldLink RX3 31 "DayBench$SlipSets" "size" "I", Cond.fieldLink RX3 34 "DayBench$SlipSets" "least" "I", Cond.methodLink RX5 126 yX5_rootOf, Cond.instanceMethod yX5_rootOf, Cond.selects RX5 yX5_rootOf yX5_rootOf, Cond.code yX5_rootOf cX5_rootOf 4 (some .int), Cond.fieldLink RX5 110 "DayBench$Saying" "copyOf" "I", Cond.methodLink RX5 262 yX3_addGroup, Cond.instanceMethod yX3_addGroup, Cond.selects RX3 yX3_addGroup yX3_addGroup, Cond.code yX3_addGroup cX3_addGroup 4 none, Cond.fieldLink RX3 15 "DayBench$SlipSets" "root" "[I"]
def wsX5_slips_r3 : List Cond := [Cond.fieldLink RX3 18 "DayBench$SlipSets" "members" "[I", Cond.fieldLink RX3 21 "DayBench$SlipSets" "weight" "[I", Cond.methodLink RX5 182 yX3_weightOf, Cond.instanceMethod yX3_weightOf, Cond.selects RX3 yX3_weightOf yX3_weightOf, Cond.code yX3_weightOf cX3_weightOf 4 (some .int), Cond.methodLink RX5 185 yX3_tooHeavy, Cond.instanceMethod yX3_tooHeavy, Cond.selects RX3 yX3_tooHeavy yX3_tooHeavy, Cond.code yX3_tooHeavy cX3_tooHeavy 2 (some .boolean), Cond.methodLink RX5 188 yX3_sayingsOf, Cond.instanceMethod yX3_sayingsOf, Cond.selects RX3 yX3_sayingsOf yX3_sayingsOf, Cond.code yX3_sayingsOf cX3_sayingsOf 4 (some .int), Cond.methodLink RX5 170 yX5_askSet, Cond.instanceMethod yX5_askSet, Cond.selects RX5 yX5_askSet yX5_askSet, Cond.code yX5_askSet cX5_askSet 2 (some .int), Cond.methodLink RX5 158 yX2_lay, Cond.instanceMethod yX2_lay, Cond.selects RX2 yX2_lay yX2_lay, Cond.code yX2_lay cX2_lay 4 none, Cond.fieldLink RX2 63 "DayBench$Saying" "what" "I", Cond.fieldLink RX2 72 "DayBench$Saying" "event" "I"]
def wsX5_slips_r4 : List Cond := [Cond.fieldLink RX2 75 "DayBench$Saying" "spans" "LDayBench$Spans;", Cond.fieldLink RX2 85 "DayBench$Search" "together" "Z", Cond.methodLink RX2 60 yX2_clearTable, Cond.instanceMethod yX2_clearTable, Cond.selects RX2 yX2_clearTable yX2_clearTable, Cond.code yX2_clearTable cX2_clearTable 3 none, Cond.fieldLink RX2 20 "DayBench$Search" "spans" "[LDayBench$Spans;", Cond.constant RX2 94 (985999), Cond.fieldLink RX2 34 "DayBench$Search" "apart" "[[I", Cond.methodLink RX2 91 yX4_clear, Cond.instanceMethod yX4_clear, Cond.selects RX4 yX4_clear yX4_clear, Cond.initialized RX4, Cond.code yX4_clear cX4_clear 1 none, Cond.fieldLink RX4 18 "DayBench$Spans" "size" "I", Cond.methodLink RX2 95 yX4_add, Cond.instanceMethod yX4_add, Cond.selects RX4 yX4_add yX4_add, Cond.code yX4_add cX4_add 5 none, Cond.methodLink RX4 22 Lib.Math.max.name, Cond.static Lib.Math.max.name, Cond.code Lib.Math.max.name Lib.Math.max.code 2 (some .int), Cond.constant RX4 28 (985999), Cond.methodLink RX4 29 Lib.Math.min.name]
def wsX5_slips_r5 : List Cond := [Cond.fieldLink RX4 9 "DayBench$Spans" "from" "[I", Cond.fieldLink RX4 15 "DayBench$Spans" "to" "[I", Cond.methodLink RX2 68 yX2_layBehind, Cond.instanceMethod yX2_layBehind, Cond.selects RX2 yX2_layBehind yX2_layBehind, Cond.code yX2_layBehind cX2_layBehind 4 none, Cond.fieldLink RX2 99 "DayBench$Saying" "behindEvent" "I", Cond.fieldLink RX2 102 "DayBench$Saying" "mostBehind" "I", Cond.fieldLink RX2 105 "DayBench$Saying" "leastBehind" "I", Cond.methodLink RX2 77 yX2_keepCommon, Cond.instanceMethod yX2_keepCommon, Cond.selects RX2 yX2_keepCommon yX2_keepCommon, Cond.code yX2_keepCommon cX2_keepCommon 4 none, Cond.fieldLink RX2 25 "DayBench$Search" "spare" "LDayBench$Spans;", Cond.methodLink RX2 108 yX4_setToCommon, Cond.instanceMethod yX4_setToCommon, Cond.selects RX4 yX4_setToCommon yX4_setToCommon, Cond.code yX4_setToCommon cX4_setToCommon 5 none, Cond.methodLink RX4 32 yX4_clear, Cond.methodLink RX4 35 yX4_add, Cond.methodLink RX2 81 yX2_closeApart, Cond.instanceMethod yX2_closeApart, Cond.selects RX2 yX2_closeApart yX2_closeApart, Cond.code yX2_closeApart cX2_closeApart 4 (some .boolean)]
def wsX5_slips_r6 : List Cond := [Cond.methodLink RX2 88 yX2_boundDays, Cond.instanceMethod yX2_boundDays, Cond.selects RX2 yX2_boundDays yX2_boundDays, Cond.code yX2_boundDays cX2_boundDays 3 none, Cond.fieldLink RX2 37 "DayBench$Search" "low" "[[I", Cond.fieldLink RX2 40 "DayBench$Search" "high" "[[I", Cond.methodLink RX2 112 Lib.Math.max.name, Cond.methodLink RX5 166 yX2_run, Cond.instanceMethod yX2_run, Cond.selects RX2 yX2_run yX2_run, Cond.code yX2_run cX2_run 2 (some .int), Cond.fieldLink RX2 115 "DayBench$Search" "tillOne" "Z", Cond.fieldLink RX2 118 "DayBench$Search" "found" "Z", Cond.methodLink RX2 121 yX2_takeSpans, Cond.instanceMethod yX2_takeSpans, Cond.selects RX2 yX2_takeSpans yX2_takeSpans, Cond.code yX2_takeSpans cX2_takeSpans 3 none, Cond.fieldLink RX2 128 "DayBench$Spans" "size" "I", Cond.fieldLink RX2 131 "DayBench$Spans" "from" "[I", Cond.fieldLink RX2 134 "DayBench$Spans" "to" "[I", Cond.methodLink RX2 125 yX2_noteWay, Cond.instanceMethod yX2_noteWay, Cond.selects RX2 yX2_noteWay yX2_noteWay, Cond.code yX2_noteWay cX2_noteWay 4 none]
def wsX5_slips_r7 : List Cond := [Cond.fieldLink RX2 9 "DayBench$Search" "earliest" "[I", Cond.fieldLink RX2 15 "DayBench$Search" "latest" "[I", Cond.methodLink RX2 137 yX2_narrow, Cond.instanceMethod yX2_narrow, Cond.selects RX2 yX2_narrow yX2_narrow, Cond.code yX2_narrow cX2_narrow 7 (some .boolean), Cond.methodLink RX5 191 yX3_rootsOf, Cond.instanceMethod yX3_rootsOf, Cond.selects RX3 yX3_rootsOf yX3_rootsOf, Cond.code yX3_rootsOf cX3_rootsOf 4 (some .int), Cond.methodLink RX5 194 yX3_note, Cond.instanceMethod yX3_note, Cond.selects RX3 yX3_note yX3_note, Cond.code yX3_note cX3_note 3 none, Cond.fieldLink RX3 24 "DayBench$SlipSets" "lightest" "[I", Cond.methodLink RX5 197 yX3_tell, Cond.instanceMethod yX3_tell, Cond.selects RX3 yX3_tell yX3_tell, Cond.code yX3_tell cX3_tell 1 none, Cond.fieldLink RX3 11 "DayBench$SlipSets" "toldSets" "[I", Cond.methodLink RX3 37 arraycopyName, Cond.native arraycopyName, Cond.static arraycopyName, Cond.initialized "java/lang/System"]
def wsX5_slips_r8 : List Cond := [Cond.fieldLink RX3 43 "DayBench$SlipSets" "told" "I"]
def wsX5_slips : List Cond := .code yX5_slips cX5_slips 6 (some .int) :: ((wsX5_slips_r1 ++ (wsX5_slips_r2 ++ (wsX5_slips_r3 ++ (wsX5_slips_r4 ++ (wsX5_slips_r5 ++ (wsX5_slips_r6 ++ (wsX5_slips_r7 ++ wsX5_slips_r8))))))) ++ wsX50 ++ wsX30 ++ wsX10 ++ wsX20 ++ wsX40)
def wsX5_slipped : List Cond := .code yX5_slipped cX5_slipped 2 (some .int) :: ([.fieldLink RX5 36 "DayBench" "slipSets" "LDayBench$SlipSets;", .fieldLink RX5 203 "DayBench$SlipSets" "told" "I", .fieldLink RX5 206 "DayBench$SlipSets" "toldSets" "[I"] ++ wsX50 ++ wsX30)
def wsX5_askWidth_r1 : List Cond := [Cond.fieldLink RX5 29 "DayBench" "search" "LDayBench$Search;", Cond.fieldLink RX5 71 "DayBench" "events" "I", Cond.fieldLink RX5 21 "DayBench" "sayings" "[LDayBench$Saying;", Cond.fieldLink RX5 145 "DayBench$Search" "latest" "[I", Cond.fieldLink RX5 142 "DayBench$Search" "earliest" "[I", Cond.methodLink RX5 151 yX2_begin, Cond.instanceMethod yX2_begin, Cond.selects RX2 yX2_begin yX2_begin, Cond.initialized RX2, Cond.code yX2_begin cX2_begin 2 none, Cond.methodLink RX2 43 Lib.Math.min.name, Cond.static Lib.Math.min.name, Cond.initialized "java/lang/Math", Cond.code Lib.Math.min.name Lib.Math.min.code 2 (some .int), Cond.fieldLink RX2 49 "DayBench$Search" "events" "I", Cond.fieldLink RX2 53 "DayBench$Search" "looks" "I", Cond.fieldLink RX2 56 "DayBench$Search" "spent" "Z", Cond.methodLink RX5 154 yX5_takenSet, Cond.instanceMethod yX5_takenSet, Cond.selects RX5 yX5_takenSet yX5_takenSet, Cond.initialized RX5, Cond.code yX5_takenSet cX5_takenSet 3 (some .int), Cond.fieldLink RX5 74 "DayBench" "sayingsMade" "I", Cond.fieldLink RX5 113 "DayBench$Saying" "taken" "Z"]
def wsX5_askWidth_r2 : List Cond := [Cond.methodLink RX5 158 yX2_lay, Cond.instanceMethod yX2_lay, Cond.selects RX2 yX2_lay yX2_lay, Cond.code yX2_lay cX2_lay 4 none, Cond.fieldLink RX2 63 "DayBench$Saying" "what" "I", Cond.fieldLink RX2 72 "DayBench$Saying" "event" "I", Cond.fieldLink RX2 75 "DayBench$Saying" "spans" "LDayBench$Spans;", Cond.fieldLink RX2 85 "DayBench$Search" "together" "Z", Cond.methodLink RX2 60 yX2_clearTable, Cond.instanceMethod yX2_clearTable, Cond.selects RX2 yX2_clearTable yX2_clearTable, Cond.code yX2_clearTable cX2_clearTable 3 none, Cond.fieldLink RX2 20 "DayBench$Search" "spans" "[LDayBench$Spans;", Cond.constant RX2 94 (985999), Cond.fieldLink RX2 34 "DayBench$Search" "apart" "[[I", Cond.methodLink RX2 91 yX4_clear, Cond.instanceMethod yX4_clear, Cond.selects RX4 yX4_clear yX4_clear, Cond.initialized RX4, Cond.code yX4_clear cX4_clear 1 none, Cond.fieldLink RX4 18 "DayBench$Spans" "size" "I", Cond.methodLink RX2 95 yX4_add, Cond.instanceMethod yX4_add, Cond.selects RX4 yX4_add yX4_add]
def wsX5_askWidth_r3 : List Cond := [Cond.code yX4_add cX4_add 5 none, Cond.methodLink RX4 22 Lib.Math.max.name, Cond.static Lib.Math.max.name, Cond.code Lib.Math.max.name Lib.Math.max.code 2 (some .int), Cond.constant RX4 28 (985999), Cond.methodLink RX4 29 Lib.Math.min.name, Cond.fieldLink RX4 9 "DayBench$Spans" "from" "[I", Cond.fieldLink RX4 15 "DayBench$Spans" "to" "[I", Cond.methodLink RX2 68 yX2_layBehind, Cond.instanceMethod yX2_layBehind, Cond.selects RX2 yX2_layBehind yX2_layBehind, Cond.code yX2_layBehind cX2_layBehind 4 none, Cond.fieldLink RX2 99 "DayBench$Saying" "behindEvent" "I", Cond.fieldLink RX2 102 "DayBench$Saying" "mostBehind" "I", Cond.fieldLink RX2 105 "DayBench$Saying" "leastBehind" "I", Cond.methodLink RX2 77 yX2_keepCommon, Cond.instanceMethod yX2_keepCommon, Cond.selects RX2 yX2_keepCommon yX2_keepCommon, Cond.code yX2_keepCommon cX2_keepCommon 4 none, Cond.fieldLink RX2 25 "DayBench$Search" "spare" "LDayBench$Spans;", Cond.methodLink RX2 108 yX4_setToCommon, Cond.instanceMethod yX4_setToCommon, Cond.selects RX4 yX4_setToCommon yX4_setToCommon, Cond.code yX4_setToCommon cX4_setToCommon 5 none]
def wsX5_askWidth_r4 : List Cond := [Cond.methodLink RX4 32 yX4_clear, Cond.methodLink RX4 35 yX4_add, Cond.methodLink RX2 81 yX2_closeApart, Cond.instanceMethod yX2_closeApart, Cond.selects RX2 yX2_closeApart yX2_closeApart, Cond.code yX2_closeApart cX2_closeApart 4 (some .boolean), Cond.methodLink RX2 88 yX2_boundDays, Cond.instanceMethod yX2_boundDays, Cond.selects RX2 yX2_boundDays yX2_boundDays, Cond.code yX2_boundDays cX2_boundDays 3 none, Cond.fieldLink RX2 37 "DayBench$Search" "low" "[[I", Cond.fieldLink RX2 40 "DayBench$Search" "high" "[[I", Cond.methodLink RX2 112 Lib.Math.max.name, Cond.methodLink RX5 162 yX2_find, Cond.instanceMethod yX2_find, Cond.selects RX2 yX2_find yX2_find, Cond.code yX2_find cX2_find 3 none, Cond.fieldLink RX2 29 "DayBench$Search" "findSpan" "LDayBench$Spans;", Cond.methodLink RX5 166 yX2_run, Cond.instanceMethod yX2_run, Cond.selects RX2 yX2_run yX2_run, Cond.code yX2_run cX2_run 2 (some .int), Cond.fieldLink RX2 115 "DayBench$Search" "tillOne" "Z", Cond.fieldLink RX2 118 "DayBench$Search" "found" "Z"]
def wsX5_askWidth_r5 : List Cond := [Cond.methodLink RX2 121 yX2_takeSpans, Cond.instanceMethod yX2_takeSpans, Cond.selects RX2 yX2_takeSpans yX2_takeSpans, Cond.code yX2_takeSpans cX2_takeSpans 3 none, Cond.fieldLink RX2 128 "DayBench$Spans" "size" "I", Cond.fieldLink RX2 131 "DayBench$Spans" "from" "[I", Cond.fieldLink RX2 134 "DayBench$Spans" "to" "[I", Cond.methodLink RX2 125 yX2_noteWay, Cond.instanceMethod yX2_noteWay, Cond.selects RX2 yX2_noteWay yX2_noteWay, Cond.code yX2_noteWay cX2_noteWay 4 none, Cond.fieldLink RX2 9 "DayBench$Search" "earliest" "[I", Cond.fieldLink RX2 15 "DayBench$Search" "latest" "[I", Cond.methodLink RX2 137 yX2_narrow, Cond.instanceMethod yX2_narrow, Cond.selects RX2 yX2_narrow yX2_narrow, Cond.code yX2_narrow cX2_narrow 7 (some .boolean)]
def wsX5_askWidth : List Cond := .code yX5_askWidth cX5_askWidth 6 (some .int) :: ((wsX5_askWidth_r1 ++ (wsX5_askWidth_r2 ++ (wsX5_askWidth_r3 ++ (wsX5_askWidth_r4 ++ wsX5_askWidth_r5)))) ++ wsX50 ++ wsX20 ++ wsX10 ++ wsX40)
def wsX5_width_r1 : List Cond := [Cond.methodLink RX5 77 yX5_isEvent, Cond.instanceMethod yX5_isEvent, Cond.selects RX5 yX5_isEvent yX5_isEvent, Cond.initialized RX5, Cond.code yX5_isEvent cX5_isEvent 2 (some .boolean), Cond.fieldLink RX5 71 "DayBench" "events" "I", Cond.methodLink RX5 148 yX5_isDay, Cond.static yX5_isDay, Cond.code yX5_isDay cX5_isDay 1 (some .boolean), Cond.constant RX5 225 (985999), Cond.methodLink RX5 209 yX5_askWidth, Cond.instanceMethod yX5_askWidth, Cond.selects RX5 yX5_askWidth yX5_askWidth, Cond.code yX5_askWidth cX5_askWidth 6 (some .int), Cond.fieldLink RX5 29 "DayBench" "search" "LDayBench$Search;", Cond.fieldLink RX5 21 "DayBench" "sayings" "[LDayBench$Saying;", Cond.fieldLink RX5 145 "DayBench$Search" "latest" "[I", Cond.fieldLink RX5 142 "DayBench$Search" "earliest" "[I", Cond.methodLink RX5 151 yX2_begin, Cond.instanceMethod yX2_begin, Cond.selects RX2 yX2_begin yX2_begin, Cond.initialized RX2, Cond.code yX2_begin cX2_begin 2 none, Cond.methodLink RX2 43 Lib.Math.min.name]
def wsX5_width_r2 : List Cond := [Cond.static Lib.Math.min.name, Cond.initialized "java/lang/Math", Cond.code Lib.Math.min.name Lib.Math.min.code 2 (some .int), Cond.fieldLink RX2 49 "DayBench$Search" "events" "I", Cond.fieldLink RX2 53 "DayBench$Search" "looks" "I", Cond.fieldLink RX2 56 "DayBench$Search" "spent" "Z", Cond.methodLink RX5 154 yX5_takenSet, Cond.instanceMethod yX5_takenSet, Cond.selects RX5 yX5_takenSet yX5_takenSet, Cond.code yX5_takenSet cX5_takenSet 3 (some .int), Cond.fieldLink RX5 74 "DayBench" "sayingsMade" "I", Cond.fieldLink RX5 113 "DayBench$Saying" "taken" "Z", Cond.methodLink RX5 158 yX2_lay, Cond.instanceMethod yX2_lay, Cond.selects RX2 yX2_lay yX2_lay, Cond.code yX2_lay cX2_lay 4 none, Cond.fieldLink RX2 63 "DayBench$Saying" "what" "I", Cond.fieldLink RX2 72 "DayBench$Saying" "event" "I", Cond.fieldLink RX2 75 "DayBench$Saying" "spans" "LDayBench$Spans;", Cond.fieldLink RX2 85 "DayBench$Search" "together" "Z", Cond.methodLink RX2 60 yX2_clearTable, Cond.instanceMethod yX2_clearTable, Cond.selects RX2 yX2_clearTable yX2_clearTable, Cond.code yX2_clearTable cX2_clearTable 3 none]
def wsX5_width_r3 : List Cond := [Cond.fieldLink RX2 20 "DayBench$Search" "spans" "[LDayBench$Spans;", Cond.constant RX2 94 (985999), Cond.fieldLink RX2 34 "DayBench$Search" "apart" "[[I", Cond.methodLink RX2 91 yX4_clear, Cond.instanceMethod yX4_clear, Cond.selects RX4 yX4_clear yX4_clear, Cond.initialized RX4, Cond.code yX4_clear cX4_clear 1 none, Cond.fieldLink RX4 18 "DayBench$Spans" "size" "I", Cond.methodLink RX2 95 yX4_add, Cond.instanceMethod yX4_add, Cond.selects RX4 yX4_add yX4_add, Cond.code yX4_add cX4_add 5 none, Cond.methodLink RX4 22 Lib.Math.max.name, Cond.static Lib.Math.max.name, Cond.code Lib.Math.max.name Lib.Math.max.code 2 (some .int), Cond.constant RX4 28 (985999), Cond.methodLink RX4 29 Lib.Math.min.name, Cond.fieldLink RX4 9 "DayBench$Spans" "from" "[I", Cond.fieldLink RX4 15 "DayBench$Spans" "to" "[I", Cond.methodLink RX2 68 yX2_layBehind, Cond.instanceMethod yX2_layBehind, Cond.selects RX2 yX2_layBehind yX2_layBehind, Cond.code yX2_layBehind cX2_layBehind 4 none]
def wsX5_width_r4 : List Cond := [Cond.fieldLink RX2 99 "DayBench$Saying" "behindEvent" "I", Cond.fieldLink RX2 102 "DayBench$Saying" "mostBehind" "I", Cond.fieldLink RX2 105 "DayBench$Saying" "leastBehind" "I", Cond.methodLink RX2 77 yX2_keepCommon, Cond.instanceMethod yX2_keepCommon, Cond.selects RX2 yX2_keepCommon yX2_keepCommon, Cond.code yX2_keepCommon cX2_keepCommon 4 none, Cond.fieldLink RX2 25 "DayBench$Search" "spare" "LDayBench$Spans;", Cond.methodLink RX2 108 yX4_setToCommon, Cond.instanceMethod yX4_setToCommon, Cond.selects RX4 yX4_setToCommon yX4_setToCommon, Cond.code yX4_setToCommon cX4_setToCommon 5 none, Cond.methodLink RX4 32 yX4_clear, Cond.methodLink RX4 35 yX4_add, Cond.methodLink RX2 81 yX2_closeApart, Cond.instanceMethod yX2_closeApart, Cond.selects RX2 yX2_closeApart yX2_closeApart, Cond.code yX2_closeApart cX2_closeApart 4 (some .boolean), Cond.methodLink RX2 88 yX2_boundDays, Cond.instanceMethod yX2_boundDays, Cond.selects RX2 yX2_boundDays yX2_boundDays, Cond.code yX2_boundDays cX2_boundDays 3 none, Cond.fieldLink RX2 37 "DayBench$Search" "low" "[[I", Cond.fieldLink RX2 40 "DayBench$Search" "high" "[[I"]
def wsX5_width_r5 : List Cond := [Cond.methodLink RX2 112 Lib.Math.max.name, Cond.methodLink RX5 162 yX2_find, Cond.instanceMethod yX2_find, Cond.selects RX2 yX2_find yX2_find, Cond.code yX2_find cX2_find 3 none, Cond.fieldLink RX2 29 "DayBench$Search" "findSpan" "LDayBench$Spans;", Cond.methodLink RX5 166 yX2_run, Cond.instanceMethod yX2_run, Cond.selects RX2 yX2_run yX2_run, Cond.code yX2_run cX2_run 2 (some .int), Cond.fieldLink RX2 115 "DayBench$Search" "tillOne" "Z", Cond.fieldLink RX2 118 "DayBench$Search" "found" "Z", Cond.methodLink RX2 121 yX2_takeSpans, Cond.instanceMethod yX2_takeSpans, Cond.selects RX2 yX2_takeSpans yX2_takeSpans, Cond.code yX2_takeSpans cX2_takeSpans 3 none, Cond.fieldLink RX2 128 "DayBench$Spans" "size" "I", Cond.fieldLink RX2 131 "DayBench$Spans" "from" "[I", Cond.fieldLink RX2 134 "DayBench$Spans" "to" "[I", Cond.methodLink RX2 125 yX2_noteWay, Cond.instanceMethod yX2_noteWay, Cond.selects RX2 yX2_noteWay yX2_noteWay, Cond.code yX2_noteWay cX2_noteWay 4 none, Cond.fieldLink RX2 9 "DayBench$Search" "earliest" "[I"]
def wsX5_width_r6 : List Cond := [Cond.fieldLink RX2 15 "DayBench$Search" "latest" "[I", Cond.methodLink RX2 137 yX2_narrow, Cond.instanceMethod yX2_narrow, Cond.selects RX2 yX2_narrow yX2_narrow, Cond.code yX2_narrow cX2_narrow 7 (some .boolean)]
def wsX5_width : List Cond := .code yX5_width cX5_width 4 (some .int) :: ((wsX5_width_r1 ++ (wsX5_width_r2 ++ (wsX5_width_r3 ++ (wsX5_width_r4 ++ (wsX5_width_r5 ++ wsX5_width_r6))))) ++ wsX50 ++ wsX20 ++ wsX10 ++ wsX40)
def wsX5_greaterWidth_r1 : List Cond := [Cond.fieldLink RX5 40 "DayBench" "heldFirst" "[I", Cond.fieldLink RX5 43 "DayBench" "heldLast" "[I", Cond.methodLink RX5 255 Lib.Math.max.name, Cond.static Lib.Math.max.name, Cond.initialized "java/lang/Math", Cond.code Lib.Math.max.name Lib.Math.max.code 2 (some .int), Cond.methodLink RX5 209 yX5_askWidth, Cond.instanceMethod yX5_askWidth, Cond.selects RX5 yX5_askWidth yX5_askWidth, Cond.initialized RX5, Cond.code yX5_askWidth cX5_askWidth 6 (some .int), Cond.fieldLink RX5 29 "DayBench" "search" "LDayBench$Search;", Cond.fieldLink RX5 71 "DayBench" "events" "I", Cond.fieldLink RX5 21 "DayBench" "sayings" "[LDayBench$Saying;", Cond.fieldLink RX5 145 "DayBench$Search" "latest" "[I", Cond.fieldLink RX5 142 "DayBench$Search" "earliest" "[I", Cond.methodLink RX5 151 yX2_begin, Cond.instanceMethod yX2_begin, Cond.selects RX2 yX2_begin yX2_begin, Cond.initialized RX2, Cond.code yX2_begin cX2_begin 2 none, Cond.methodLink RX2 43 Lib.Math.min.name, Cond.static Lib.Math.min.name, Cond.code Lib.Math.min.name Lib.Math.min.code 2 (some .int)]
def wsX5_greaterWidth_r2 : List Cond := [Cond.fieldLink RX2 49 "DayBench$Search" "events" "I", Cond.fieldLink RX2 53 "DayBench$Search" "looks" "I", Cond.fieldLink RX2 56 "DayBench$Search" "spent" "Z", Cond.methodLink RX5 154 yX5_takenSet, Cond.instanceMethod yX5_takenSet, Cond.selects RX5 yX5_takenSet yX5_takenSet, Cond.code yX5_takenSet cX5_takenSet 3 (some .int), Cond.fieldLink RX5 74 "DayBench" "sayingsMade" "I", Cond.fieldLink RX5 113 "DayBench$Saying" "taken" "Z", Cond.methodLink RX5 158 yX2_lay, Cond.instanceMethod yX2_lay, Cond.selects RX2 yX2_lay yX2_lay, Cond.code yX2_lay cX2_lay 4 none, Cond.fieldLink RX2 63 "DayBench$Saying" "what" "I", Cond.fieldLink RX2 72 "DayBench$Saying" "event" "I", Cond.fieldLink RX2 75 "DayBench$Saying" "spans" "LDayBench$Spans;", Cond.fieldLink RX2 85 "DayBench$Search" "together" "Z", Cond.methodLink RX2 60 yX2_clearTable, Cond.instanceMethod yX2_clearTable, Cond.selects RX2 yX2_clearTable yX2_clearTable, Cond.code yX2_clearTable cX2_clearTable 3 none, Cond.fieldLink RX2 20 "DayBench$Search" "spans" "[LDayBench$Spans;", Cond.constant RX2 94 (985999), Cond.fieldLink RX2 34 "DayBench$Search" "apart" "[[I"]
def wsX5_greaterWidth_r3 : List Cond := [Cond.methodLink RX2 91 yX4_clear, Cond.instanceMethod yX4_clear, Cond.selects RX4 yX4_clear yX4_clear, Cond.initialized RX4, Cond.code yX4_clear cX4_clear 1 none, Cond.fieldLink RX4 18 "DayBench$Spans" "size" "I", Cond.methodLink RX2 95 yX4_add, Cond.instanceMethod yX4_add, Cond.selects RX4 yX4_add yX4_add, Cond.code yX4_add cX4_add 5 none, Cond.methodLink RX4 22 Lib.Math.max.name, Cond.constant RX4 28 (985999), Cond.methodLink RX4 29 Lib.Math.min.name, Cond.fieldLink RX4 9 "DayBench$Spans" "from" "[I", Cond.fieldLink RX4 15 "DayBench$Spans" "to" "[I", Cond.methodLink RX2 68 yX2_layBehind, Cond.instanceMethod yX2_layBehind, Cond.selects RX2 yX2_layBehind yX2_layBehind, Cond.code yX2_layBehind cX2_layBehind 4 none, Cond.fieldLink RX2 99 "DayBench$Saying" "behindEvent" "I", Cond.fieldLink RX2 102 "DayBench$Saying" "mostBehind" "I", Cond.fieldLink RX2 105 "DayBench$Saying" "leastBehind" "I", Cond.methodLink RX2 77 yX2_keepCommon, Cond.instanceMethod yX2_keepCommon]
def wsX5_greaterWidth_r4 : List Cond := [Cond.selects RX2 yX2_keepCommon yX2_keepCommon, Cond.code yX2_keepCommon cX2_keepCommon 4 none, Cond.fieldLink RX2 25 "DayBench$Search" "spare" "LDayBench$Spans;", Cond.methodLink RX2 108 yX4_setToCommon, Cond.instanceMethod yX4_setToCommon, Cond.selects RX4 yX4_setToCommon yX4_setToCommon, Cond.code yX4_setToCommon cX4_setToCommon 5 none, Cond.methodLink RX4 32 yX4_clear, Cond.methodLink RX4 35 yX4_add, Cond.methodLink RX2 81 yX2_closeApart, Cond.instanceMethod yX2_closeApart, Cond.selects RX2 yX2_closeApart yX2_closeApart, Cond.code yX2_closeApart cX2_closeApart 4 (some .boolean), Cond.methodLink RX2 88 yX2_boundDays, Cond.instanceMethod yX2_boundDays, Cond.selects RX2 yX2_boundDays yX2_boundDays, Cond.code yX2_boundDays cX2_boundDays 3 none, Cond.fieldLink RX2 37 "DayBench$Search" "low" "[[I", Cond.fieldLink RX2 40 "DayBench$Search" "high" "[[I", Cond.methodLink RX2 112 Lib.Math.max.name, Cond.methodLink RX5 162 yX2_find, Cond.instanceMethod yX2_find, Cond.selects RX2 yX2_find yX2_find, Cond.code yX2_find cX2_find 3 none]
def wsX5_greaterWidth_r5 : List Cond := [Cond.fieldLink RX2 29 "DayBench$Search" "findSpan" "LDayBench$Spans;", Cond.methodLink RX5 166 yX2_run, Cond.instanceMethod yX2_run, Cond.selects RX2 yX2_run yX2_run, Cond.code yX2_run cX2_run 2 (some .int), Cond.fieldLink RX2 115 "DayBench$Search" "tillOne" "Z", Cond.fieldLink RX2 118 "DayBench$Search" "found" "Z", Cond.methodLink RX2 121 yX2_takeSpans, Cond.instanceMethod yX2_takeSpans, Cond.selects RX2 yX2_takeSpans yX2_takeSpans, Cond.code yX2_takeSpans cX2_takeSpans 3 none, Cond.fieldLink RX2 128 "DayBench$Spans" "size" "I", Cond.fieldLink RX2 131 "DayBench$Spans" "from" "[I", Cond.fieldLink RX2 134 "DayBench$Spans" "to" "[I", Cond.methodLink RX2 125 yX2_noteWay, Cond.instanceMethod yX2_noteWay, Cond.selects RX2 yX2_noteWay yX2_noteWay, Cond.code yX2_noteWay cX2_noteWay 4 none, Cond.fieldLink RX2 9 "DayBench$Search" "earliest" "[I", Cond.fieldLink RX2 15 "DayBench$Search" "latest" "[I", Cond.methodLink RX2 137 yX2_narrow, Cond.instanceMethod yX2_narrow, Cond.selects RX2 yX2_narrow yX2_narrow, Cond.code yX2_narrow cX2_narrow 7 (some .boolean)]
def wsX5_greaterWidth : List Cond := .code yX5_greaterWidth cX5_greaterWidth 4 (some .int) :: ((wsX5_greaterWidth_r1 ++ (wsX5_greaterWidth_r2 ++ (wsX5_greaterWidth_r3 ++ (wsX5_greaterWidth_r4 ++ wsX5_greaterWidth_r5)))) ++ wsX50 ++ wsX20 ++ wsX10 ++ wsX40)
def wsX5_settles_r1 : List Cond := [Cond.fieldLink RX5 29 "DayBench" "search" "LDayBench$Search;", Cond.fieldLink RX5 142 "DayBench$Search" "earliest" "[I", Cond.fieldLink RX5 40 "DayBench" "heldFirst" "[I", Cond.methodLink RX5 213 arraycopyName, Cond.native arraycopyName, Cond.static arraycopyName, Cond.initialized "java/lang/System", Cond.fieldLink RX5 145 "DayBench$Search" "latest" "[I", Cond.fieldLink RX5 43 "DayBench" "heldLast" "[I", Cond.fieldLink RX5 71 "DayBench" "events" "I", Cond.methodLink RX5 209 yX5_askWidth, Cond.instanceMethod yX5_askWidth, Cond.selects RX5 yX5_askWidth yX5_askWidth, Cond.initialized RX5, Cond.code yX5_askWidth cX5_askWidth 6 (some .int), Cond.fieldLink RX5 21 "DayBench" "sayings" "[LDayBench$Saying;", Cond.methodLink RX5 151 yX2_begin, Cond.instanceMethod yX2_begin, Cond.selects RX2 yX2_begin yX2_begin, Cond.initialized RX2, Cond.code yX2_begin cX2_begin 2 none, Cond.methodLink RX2 43 Lib.Math.min.name, Cond.static Lib.Math.min.name, Cond.initialized "java/lang/Math"]
def wsX5_settles_r2 : List Cond := [Cond.code Lib.Math.min.name Lib.Math.min.code 2 (some .int), Cond.fieldLink RX2 49 "DayBench$Search" "events" "I", Cond.fieldLink RX2 53 "DayBench$Search" "looks" "I", Cond.fieldLink RX2 56 "DayBench$Search" "spent" "Z", Cond.methodLink RX5 154 yX5_takenSet, Cond.instanceMethod yX5_takenSet, Cond.selects RX5 yX5_takenSet yX5_takenSet, Cond.code yX5_takenSet cX5_takenSet 3 (some .int), Cond.fieldLink RX5 74 "DayBench" "sayingsMade" "I", Cond.fieldLink RX5 113 "DayBench$Saying" "taken" "Z", Cond.methodLink RX5 158 yX2_lay, Cond.instanceMethod yX2_lay, Cond.selects RX2 yX2_lay yX2_lay, Cond.code yX2_lay cX2_lay 4 none, Cond.fieldLink RX2 63 "DayBench$Saying" "what" "I", Cond.fieldLink RX2 72 "DayBench$Saying" "event" "I", Cond.fieldLink RX2 75 "DayBench$Saying" "spans" "LDayBench$Spans;", Cond.fieldLink RX2 85 "DayBench$Search" "together" "Z", Cond.methodLink RX2 60 yX2_clearTable, Cond.instanceMethod yX2_clearTable, Cond.selects RX2 yX2_clearTable yX2_clearTable, Cond.code yX2_clearTable cX2_clearTable 3 none, Cond.fieldLink RX2 20 "DayBench$Search" "spans" "[LDayBench$Spans;", Cond.constant RX2 94 (985999)]
def wsX5_settles_r3 : List Cond := [Cond.fieldLink RX2 34 "DayBench$Search" "apart" "[[I", Cond.methodLink RX2 91 yX4_clear, Cond.instanceMethod yX4_clear, Cond.selects RX4 yX4_clear yX4_clear, Cond.initialized RX4, Cond.code yX4_clear cX4_clear 1 none, Cond.fieldLink RX4 18 "DayBench$Spans" "size" "I", Cond.methodLink RX2 95 yX4_add, Cond.instanceMethod yX4_add, Cond.selects RX4 yX4_add yX4_add, Cond.code yX4_add cX4_add 5 none, Cond.methodLink RX4 22 Lib.Math.max.name, Cond.static Lib.Math.max.name, Cond.code Lib.Math.max.name Lib.Math.max.code 2 (some .int), Cond.constant RX4 28 (985999), Cond.methodLink RX4 29 Lib.Math.min.name, Cond.fieldLink RX4 9 "DayBench$Spans" "from" "[I", Cond.fieldLink RX4 15 "DayBench$Spans" "to" "[I", Cond.methodLink RX2 68 yX2_layBehind, Cond.instanceMethod yX2_layBehind, Cond.selects RX2 yX2_layBehind yX2_layBehind, Cond.code yX2_layBehind cX2_layBehind 4 none, Cond.fieldLink RX2 99 "DayBench$Saying" "behindEvent" "I", Cond.fieldLink RX2 102 "DayBench$Saying" "mostBehind" "I"]
def wsX5_settles_r4 : List Cond := [Cond.fieldLink RX2 105 "DayBench$Saying" "leastBehind" "I", Cond.methodLink RX2 77 yX2_keepCommon, Cond.instanceMethod yX2_keepCommon, Cond.selects RX2 yX2_keepCommon yX2_keepCommon, Cond.code yX2_keepCommon cX2_keepCommon 4 none, Cond.fieldLink RX2 25 "DayBench$Search" "spare" "LDayBench$Spans;", Cond.methodLink RX2 108 yX4_setToCommon, Cond.instanceMethod yX4_setToCommon, Cond.selects RX4 yX4_setToCommon yX4_setToCommon, Cond.code yX4_setToCommon cX4_setToCommon 5 none, Cond.methodLink RX4 32 yX4_clear, Cond.methodLink RX4 35 yX4_add, Cond.methodLink RX2 81 yX2_closeApart, Cond.instanceMethod yX2_closeApart, Cond.selects RX2 yX2_closeApart yX2_closeApart, Cond.code yX2_closeApart cX2_closeApart 4 (some .boolean), Cond.methodLink RX2 88 yX2_boundDays, Cond.instanceMethod yX2_boundDays, Cond.selects RX2 yX2_boundDays yX2_boundDays, Cond.code yX2_boundDays cX2_boundDays 3 none, Cond.fieldLink RX2 37 "DayBench$Search" "low" "[[I", Cond.fieldLink RX2 40 "DayBench$Search" "high" "[[I", Cond.methodLink RX2 112 Lib.Math.max.name, Cond.methodLink RX5 162 yX2_find]
def wsX5_settles_r5 : List Cond := [Cond.instanceMethod yX2_find, Cond.selects RX2 yX2_find yX2_find, Cond.code yX2_find cX2_find 3 none, Cond.fieldLink RX2 29 "DayBench$Search" "findSpan" "LDayBench$Spans;", Cond.methodLink RX5 166 yX2_run, Cond.instanceMethod yX2_run, Cond.selects RX2 yX2_run yX2_run, Cond.code yX2_run cX2_run 2 (some .int), Cond.fieldLink RX2 115 "DayBench$Search" "tillOne" "Z", Cond.fieldLink RX2 118 "DayBench$Search" "found" "Z", Cond.methodLink RX2 121 yX2_takeSpans, Cond.instanceMethod yX2_takeSpans, Cond.selects RX2 yX2_takeSpans yX2_takeSpans, Cond.code yX2_takeSpans cX2_takeSpans 3 none, Cond.fieldLink RX2 128 "DayBench$Spans" "size" "I", Cond.fieldLink RX2 131 "DayBench$Spans" "from" "[I", Cond.fieldLink RX2 134 "DayBench$Spans" "to" "[I", Cond.methodLink RX2 125 yX2_noteWay, Cond.instanceMethod yX2_noteWay, Cond.selects RX2 yX2_noteWay yX2_noteWay, Cond.code yX2_noteWay cX2_noteWay 4 none, Cond.fieldLink RX2 9 "DayBench$Search" "earliest" "[I", Cond.fieldLink RX2 15 "DayBench$Search" "latest" "[I", Cond.methodLink RX2 137 yX2_narrow]
def wsX5_settles_r6 : List Cond := [Cond.instanceMethod yX2_narrow, Cond.selects RX2 yX2_narrow yX2_narrow, Cond.code yX2_narrow cX2_narrow 7 (some .boolean), Cond.methodLink RX5 219 yX5_greaterWidth, Cond.instanceMethod yX5_greaterWidth, Cond.selects RX5 yX5_greaterWidth yX5_greaterWidth, Cond.code yX5_greaterWidth cX5_greaterWidth 4 (some .int), Cond.methodLink RX5 255 Lib.Math.max.name]
def wsX5_settles : List Cond := .code yX5_settles cX5_settles 6 (some .int) :: ((wsX5_settles_r1 ++ (wsX5_settles_r2 ++ (wsX5_settles_r3 ++ (wsX5_settles_r4 ++ (wsX5_settles_r5 ++ wsX5_settles_r6))))) ++ wsX50 ++ wsX20 ++ wsX10 ++ wsX40)
def wsX5_count : List Cond := .code yX5_count cX5_count 2 (some .int) :: ([.fieldLink RX5 59 "DayBench" "kings" "I", .fieldLink RX5 71 "DayBench" "events" "I", .fieldLink RX5 74 "DayBench" "sayingsMade" "I", .fieldLink RX5 29 "DayBench" "search" "LDayBench$Search;", .fieldLink RX5 222 "DayBench$Search" "looks" "I"] ++ wsX50 ++ wsX20)
def wsX6_init_r1 : List Cond := [Cond.methodLink RX6 1 objectInit, Cond.instanceMethod objectInit, Cond.code objectInit ⟨#[0xb1]⟩ 1 none, Cond.arrayClass .int, Cond.fieldLink RX6 7 "DayBenchModel" "kingCalendar" "[I", Cond.fieldLink RX6 13 "DayBenchModel" "kingFrom" "[I", Cond.fieldLink RX6 16 "DayBenchModel" "kingTo" "[I", Cond.fieldLink RX6 19 "DayBenchModel" "sayEvent" "[I", Cond.fieldLink RX6 22 "DayBenchModel" "sayWhat" "[I", Cond.fieldLink RX6 25 "DayBenchModel" "sayA" "[I", Cond.fieldLink RX6 28 "DayBenchModel" "sayB" "[I", Cond.fieldLink RX6 31 "DayBenchModel" "sayC" "[I", Cond.fieldLink RX6 34 "DayBenchModel" "sayWeight" "[I", Cond.fieldLink RX6 37 "DayBenchModel" "copyOf" "[I", Cond.arrayClass .boolean, Cond.fieldLink RX6 40 "DayBenchModel" "isTaken" "[Z", Cond.fieldLink RX6 44 "DayBenchModel" "spanFrom" "[I", Cond.fieldLink RX6 47 "DayBenchModel" "spanTo" "[I", Cond.fieldLink RX6 50 "DayBenchModel" "spanMany" "[I", Cond.fieldLink RX6 53 "DayBenchModel" "eventFrom" "[I", Cond.fieldLink RX6 56 "DayBenchModel" "eventTo" "[I", Cond.fieldLink RX6 59 "DayBenchModel" "eventMany" "[I", Cond.fieldLink RX6 62 "DayBenchModel" "newFrom" "[I", Cond.fieldLink RX6 65 "DayBenchModel" "newTo" "[I"]
def wsX6_init_r2 : List Cond := [Cond.fieldLink RX6 68 "DayBenchModel" "low" "[I", Cond.fieldLink RX6 71 "DayBenchModel" "high" "[I", Cond.fieldLink RX6 74 "DayBenchModel" "took" "[I", Cond.fieldLink RX6 77 "DayBenchModel" "first" "[I", Cond.fieldLink RX6 80 "DayBenchModel" "last" "[I", Cond.fieldLink RX6 83 "DayBenchModel" "slipSets" "[I", Cond.fieldLink RX6 86 "DayBenchModel" "newSets" "[I", Cond.fieldLink RX6 89 "DayBenchModel" "roots" "[I", Cond.fieldLink RX6 92 "DayBenchModel" "ownFirst" "[I", Cond.fieldLink RX6 95 "DayBenchModel" "ownLast" "[I"]
def wsX6_init : List Cond := .code yX6_init cX6_init 1 none :: ((wsX6_init_r1 ++ wsX6_init_r2) ++ wsX60)
def wsX6_isLeap : List Cond := .code yX6_isLeap cX6_isLeap 2 (some .boolean) :: ([])
def wsX6_lengthOf : List Cond := .code yX6_lengthOf cX6_lengthOf 3 (some .int) :: ([.methodLink RX6 102 yX6_isLeap, .static yX6_isLeap, .initialized RX6, .code yX6_isLeap cX6_isLeap 2 (some .boolean)])
def wsX6_monthsOf : List Cond := .code yX6_monthsOf cX6_monthsOf 1 (some .int) :: ([])
def wsX6_yearFrom : List Cond := .code yX6_yearFrom cX6_yearFrom 3 (some .int) :: ([])
def wsX6_dayOf : List Cond := .code yX6_dayOf cX6_dayOf 6 (some .int) :: ([.constant RX6 114 (2000000), .methodLink RX6 106 yX6_monthsOf, .static yX6_monthsOf, .initialized RX6, .code yX6_monthsOf cX6_monthsOf 1 (some .int), .methodLink RX6 110 yX6_lengthOf, .static yX6_lengthOf, .code yX6_lengthOf cX6_lengthOf 3 (some .int), .methodLink RX6 102 yX6_isLeap, .static yX6_isLeap, .code yX6_isLeap cX6_isLeap 2 (some .boolean), .methodLink RX6 115 yX6_yearFrom, .static yX6_yearFrom, .code yX6_yearFrom cX6_yearFrom 3 (some .int)])
def wsX6_isDay : List Cond := .code yX6_isDay cX6_isDay 1 (some .boolean) :: ([.constant RX6 119 (986000)])
def wsX6_day : List Cond := .code yX6_day cX6_day 6 (some .int) :: ([.fieldLink RX6 98 "DayBenchModel" "thrown" "I", .methodLink RX6 120 yX6_dayOf, .static yX6_dayOf, .initialized RX6, .code yX6_dayOf cX6_dayOf 6 (some .int), .constant RX6 114 (2000000), .methodLink RX6 106 yX6_monthsOf, .static yX6_monthsOf, .code yX6_monthsOf cX6_monthsOf 1 (some .int), .methodLink RX6 110 yX6_lengthOf, .static yX6_lengthOf, .code yX6_lengthOf cX6_lengthOf 3 (some .int), .methodLink RX6 102 yX6_isLeap, .static yX6_isLeap, .code yX6_isLeap cX6_isLeap 2 (some .boolean), .methodLink RX6 115 yX6_yearFrom, .static yX6_yearFrom, .code yX6_yearFrom cX6_yearFrom 3 (some .int), .methodLink RX6 124 yX6_isDay, .static yX6_isDay, .code yX6_isDay cX6_isDay 1 (some .boolean), .constant RX6 119 (986000)] ++ wsX60)
def wsX6_finds : List Cond := .code yX6_finds cX6_finds 6 (some .boolean) :: ([.methodLink RX6 128 Lib.Math.max.name, .static Lib.Math.max.name, .initialized "java/lang/Math", .code Lib.Math.max.name Lib.Math.max.code 2 (some .int), .fieldLink RX6 133 "DayBenchModel" "foundYear" "I", .fieldLink RX6 136 "DayBenchModel" "foundMonth" "I", .fieldLink RX6 139 "DayBenchModel" "foundDay" "I", .methodLink RX6 124 yX6_isDay, .static yX6_isDay, .initialized RX6, .code yX6_isDay cX6_isDay 1 (some .boolean), .constant RX6 119 (986000), .methodLink RX6 115 yX6_yearFrom, .static yX6_yearFrom, .code yX6_yearFrom cX6_yearFrom 3 (some .int), .methodLink RX6 110 yX6_lengthOf, .static yX6_lengthOf, .code yX6_lengthOf cX6_lengthOf 3 (some .int), .methodLink RX6 102 yX6_isLeap, .static yX6_isLeap, .code yX6_isLeap cX6_isLeap 2 (some .boolean)] ++ wsX60)
def wsX6_date_r1 : List Cond := [Cond.fieldLink RX6 98 "DayBenchModel" "thrown" "I", Cond.fieldLink RX6 133 "DayBenchModel" "foundYear" "I", Cond.fieldLink RX6 136 "DayBenchModel" "foundMonth" "I", Cond.fieldLink RX6 139 "DayBenchModel" "foundDay" "I", Cond.methodLink RX6 142 yX6_finds, Cond.instanceMethod yX6_finds, Cond.selects RX6 yX6_finds yX6_finds, Cond.initialized RX6, Cond.code yX6_finds cX6_finds 6 (some .boolean), Cond.methodLink RX6 128 Lib.Math.max.name, Cond.static Lib.Math.max.name, Cond.initialized "java/lang/Math", Cond.code Lib.Math.max.name Lib.Math.max.code 2 (some .int), Cond.methodLink RX6 124 yX6_isDay, Cond.static yX6_isDay, Cond.code yX6_isDay cX6_isDay 1 (some .boolean), Cond.constant RX6 119 (986000), Cond.methodLink RX6 115 yX6_yearFrom, Cond.static yX6_yearFrom, Cond.code yX6_yearFrom cX6_yearFrom 3 (some .int), Cond.methodLink RX6 110 yX6_lengthOf, Cond.static yX6_lengthOf, Cond.code yX6_lengthOf cX6_lengthOf 3 (some .int), Cond.methodLink RX6 102 yX6_isLeap]
def wsX6_date_r2 : List Cond := [Cond.static yX6_isLeap, Cond.code yX6_isLeap cX6_isLeap 2 (some .boolean)]
def wsX6_date : List Cond := .code yX6_date cX6_date 4 (some .int) :: ((wsX6_date_r1 ++ wsX6_date_r2) ++ wsX60)
def wsX6_behind_r1 : List Cond := [Cond.fieldLink RX6 133 "DayBenchModel" "foundYear" "I", Cond.fieldLink RX6 136 "DayBenchModel" "foundMonth" "I", Cond.fieldLink RX6 139 "DayBenchModel" "foundDay" "I", Cond.constant RX6 114 (2000000), Cond.methodLink RX6 142 yX6_finds, Cond.instanceMethod yX6_finds, Cond.selects RX6 yX6_finds yX6_finds, Cond.initialized RX6, Cond.code yX6_finds cX6_finds 6 (some .boolean), Cond.methodLink RX6 128 Lib.Math.max.name, Cond.static Lib.Math.max.name, Cond.initialized "java/lang/Math", Cond.code Lib.Math.max.name Lib.Math.max.code 2 (some .int), Cond.methodLink RX6 124 yX6_isDay, Cond.static yX6_isDay, Cond.code yX6_isDay cX6_isDay 1 (some .boolean), Cond.constant RX6 119 (986000), Cond.methodLink RX6 115 yX6_yearFrom, Cond.static yX6_yearFrom, Cond.code yX6_yearFrom cX6_yearFrom 3 (some .int), Cond.methodLink RX6 110 yX6_lengthOf, Cond.static yX6_lengthOf, Cond.code yX6_lengthOf cX6_lengthOf 3 (some .int), Cond.methodLink RX6 102 yX6_isLeap]
def wsX6_behind_r2 : List Cond := [Cond.static yX6_isLeap, Cond.code yX6_isLeap cX6_isLeap 2 (some .boolean), Cond.methodLink RX6 120 yX6_dayOf, Cond.static yX6_dayOf, Cond.code yX6_dayOf cX6_dayOf 6 (some .int), Cond.methodLink RX6 106 yX6_monthsOf, Cond.static yX6_monthsOf, Cond.code yX6_monthsOf cX6_monthsOf 1 (some .int)]
def wsX6_behind : List Cond := .code yX6_behind cX6_behind 6 (some .int) :: ((wsX6_behind_r1 ++ wsX6_behind_r2) ++ wsX60)
def wsX6_years_r1 : List Cond := [Cond.fieldLink RX6 98 "DayBenchModel" "thrown" "I", Cond.methodLink RX6 145 yX6_behind, Cond.instanceMethod yX6_behind, Cond.selects RX6 yX6_behind yX6_behind, Cond.initialized RX6, Cond.code yX6_behind cX6_behind 6 (some .int), Cond.fieldLink RX6 133 "DayBenchModel" "foundYear" "I", Cond.fieldLink RX6 136 "DayBenchModel" "foundMonth" "I", Cond.fieldLink RX6 139 "DayBenchModel" "foundDay" "I", Cond.constant RX6 114 (2000000), Cond.methodLink RX6 142 yX6_finds, Cond.instanceMethod yX6_finds, Cond.selects RX6 yX6_finds yX6_finds, Cond.code yX6_finds cX6_finds 6 (some .boolean), Cond.methodLink RX6 128 Lib.Math.max.name, Cond.static Lib.Math.max.name, Cond.initialized "java/lang/Math", Cond.code Lib.Math.max.name Lib.Math.max.code 2 (some .int), Cond.methodLink RX6 124 yX6_isDay, Cond.static yX6_isDay, Cond.code yX6_isDay cX6_isDay 1 (some .boolean), Cond.constant RX6 119 (986000), Cond.methodLink RX6 115 yX6_yearFrom, Cond.static yX6_yearFrom]
def wsX6_years_r2 : List Cond := [Cond.code yX6_yearFrom cX6_yearFrom 3 (some .int), Cond.methodLink RX6 110 yX6_lengthOf, Cond.static yX6_lengthOf, Cond.code yX6_lengthOf cX6_lengthOf 3 (some .int), Cond.methodLink RX6 102 yX6_isLeap, Cond.static yX6_isLeap, Cond.code yX6_isLeap cX6_isLeap 2 (some .boolean), Cond.methodLink RX6 120 yX6_dayOf, Cond.static yX6_dayOf, Cond.code yX6_dayOf cX6_dayOf 6 (some .int), Cond.methodLink RX6 106 yX6_monthsOf, Cond.static yX6_monthsOf, Cond.code yX6_monthsOf cX6_monthsOf 1 (some .int)]
def wsX6_years : List Cond := .code yX6_years cX6_years 4 (some .int) :: ((wsX6_years_r1 ++ wsX6_years_r2) ++ wsX60)
def wsX6_king : List Cond := .code yX6_king cX6_king 4 (some .int) :: ([.fieldLink RX6 98 "DayBenchModel" "thrown" "I", .fieldLink RX6 148 "DayBenchModel" "kings" "I", .fieldLink RX6 7 "DayBenchModel" "kingCalendar" "[I", .fieldLink RX6 13 "DayBenchModel" "kingFrom" "[I", .fieldLink RX6 16 "DayBenchModel" "kingTo" "[I", .methodLink RX6 124 yX6_isDay, .static yX6_isDay, .initialized RX6, .code yX6_isDay cX6_isDay 1 (some .boolean), .constant RX6 119 (986000)] ++ wsX60)
def wsX6_event : List Cond := .code yX6_event cX6_event 1 (some .int) :: ([.fieldLink RX6 98 "DayBenchModel" "thrown" "I", .fieldLink RX6 151 "DayBenchModel" "events" "I"] ++ wsX60)
def wsX6_lays : List Cond := .code yX6_lays cX6_lays 6 none :: ([.methodLink RX6 128 Lib.Math.max.name, .static Lib.Math.max.name, .initialized "java/lang/Math", .code Lib.Math.max.name Lib.Math.max.code 2 (some .int), .constant RX6 154 (985999), .methodLink RX6 155 Lib.Math.min.name, .static Lib.Math.min.name, .code Lib.Math.min.name Lib.Math.min.code 2 (some .int), .fieldLink RX6 158 "DayBenchModel" "sayings" "I", .fieldLink RX6 50 "DayBenchModel" "spanMany" "[I", .fieldLink RX6 44 "DayBenchModel" "spanFrom" "[I", .fieldLink RX6 47 "DayBenchModel" "spanTo" "[I"] ++ wsX60)
def wsX6_isYear : List Cond := .code yX6_isYear cX6_isYear 3 (some .boolean) :: ([])
def wsX6_reign_r1 : List Cond := [Cond.fieldLink RX6 148 "DayBenchModel" "kings" "I", Cond.fieldLink RX6 7 "DayBenchModel" "kingCalendar" "[I", Cond.fieldLink RX6 13 "DayBenchModel" "kingFrom" "[I", Cond.fieldLink RX6 16 "DayBenchModel" "kingTo" "[I", Cond.methodLink RX6 145 yX6_behind, Cond.instanceMethod yX6_behind, Cond.selects RX6 yX6_behind yX6_behind, Cond.initialized RX6, Cond.code yX6_behind cX6_behind 6 (some .int), Cond.fieldLink RX6 133 "DayBenchModel" "foundYear" "I", Cond.fieldLink RX6 136 "DayBenchModel" "foundMonth" "I", Cond.fieldLink RX6 139 "DayBenchModel" "foundDay" "I", Cond.constant RX6 114 (2000000), Cond.methodLink RX6 142 yX6_finds, Cond.instanceMethod yX6_finds, Cond.selects RX6 yX6_finds yX6_finds, Cond.code yX6_finds cX6_finds 6 (some .boolean), Cond.methodLink RX6 128 Lib.Math.max.name, Cond.static Lib.Math.max.name, Cond.initialized "java/lang/Math", Cond.code Lib.Math.max.name Lib.Math.max.code 2 (some .int), Cond.methodLink RX6 124 yX6_isDay, Cond.static yX6_isDay, Cond.code yX6_isDay cX6_isDay 1 (some .boolean)]
def wsX6_reign_r2 : List Cond := [Cond.constant RX6 119 (986000), Cond.methodLink RX6 115 yX6_yearFrom, Cond.static yX6_yearFrom, Cond.code yX6_yearFrom cX6_yearFrom 3 (some .int), Cond.methodLink RX6 110 yX6_lengthOf, Cond.static yX6_lengthOf, Cond.code yX6_lengthOf cX6_lengthOf 3 (some .int), Cond.methodLink RX6 102 yX6_isLeap, Cond.static yX6_isLeap, Cond.code yX6_isLeap cX6_isLeap 2 (some .boolean), Cond.methodLink RX6 120 yX6_dayOf, Cond.static yX6_dayOf, Cond.code yX6_dayOf cX6_dayOf 6 (some .int), Cond.methodLink RX6 106 yX6_monthsOf, Cond.static yX6_monthsOf, Cond.code yX6_monthsOf cX6_monthsOf 1 (some .int), Cond.methodLink RX6 161 yX6_lays, Cond.instanceMethod yX6_lays, Cond.selects RX6 yX6_lays yX6_lays, Cond.code yX6_lays cX6_lays 6 none, Cond.constant RX6 154 (985999), Cond.methodLink RX6 155 Lib.Math.min.name, Cond.static Lib.Math.min.name, Cond.code Lib.Math.min.name Lib.Math.min.code 2 (some .int)]
def wsX6_reign_r3 : List Cond := [Cond.fieldLink RX6 158 "DayBenchModel" "sayings" "I", Cond.fieldLink RX6 50 "DayBenchModel" "spanMany" "[I", Cond.fieldLink RX6 44 "DayBenchModel" "spanFrom" "[I", Cond.fieldLink RX6 47 "DayBenchModel" "spanTo" "[I"]
def wsX6_reign : List Cond := .code yX6_reign cX6_reign 5 none :: ((wsX6_reign_r1 ++ (wsX6_reign_r2 ++ wsX6_reign_r3)) ++ wsX60)
def wsX6_spans_r1 : List Cond := [Cond.fieldLink RX6 50 "DayBenchModel" "spanMany" "[I", Cond.fieldLink RX6 158 "DayBenchModel" "sayings" "I", Cond.constant RX6 114 (2000000), Cond.methodLink RX6 124 yX6_isDay, Cond.static yX6_isDay, Cond.initialized RX6, Cond.code yX6_isDay cX6_isDay 1 (some .boolean), Cond.constant RX6 119 (986000), Cond.methodLink RX6 161 yX6_lays, Cond.instanceMethod yX6_lays, Cond.selects RX6 yX6_lays yX6_lays, Cond.code yX6_lays cX6_lays 6 none, Cond.methodLink RX6 128 Lib.Math.max.name, Cond.static Lib.Math.max.name, Cond.initialized "java/lang/Math", Cond.code Lib.Math.max.name Lib.Math.max.code 2 (some .int), Cond.constant RX6 154 (985999), Cond.methodLink RX6 155 Lib.Math.min.name, Cond.static Lib.Math.min.name, Cond.code Lib.Math.min.name Lib.Math.min.code 2 (some .int), Cond.fieldLink RX6 44 "DayBenchModel" "spanFrom" "[I", Cond.fieldLink RX6 47 "DayBenchModel" "spanTo" "[I", Cond.methodLink RX6 120 yX6_dayOf, Cond.static yX6_dayOf]
def wsX6_spans_r2 : List Cond := [Cond.code yX6_dayOf cX6_dayOf 6 (some .int), Cond.methodLink RX6 106 yX6_monthsOf, Cond.static yX6_monthsOf, Cond.code yX6_monthsOf cX6_monthsOf 1 (some .int), Cond.methodLink RX6 110 yX6_lengthOf, Cond.static yX6_lengthOf, Cond.code yX6_lengthOf cX6_lengthOf 3 (some .int), Cond.methodLink RX6 102 yX6_isLeap, Cond.static yX6_isLeap, Cond.code yX6_isLeap cX6_isLeap 2 (some .boolean), Cond.methodLink RX6 115 yX6_yearFrom, Cond.static yX6_yearFrom, Cond.code yX6_yearFrom cX6_yearFrom 3 (some .int), Cond.methodLink RX6 165 yX6_isYear, Cond.instanceMethod yX6_isYear, Cond.selects RX6 yX6_isYear yX6_isYear, Cond.code yX6_isYear cX6_isYear 3 (some .boolean), Cond.methodLink RX6 168 yX6_reign, Cond.instanceMethod yX6_reign, Cond.selects RX6 yX6_reign yX6_reign, Cond.code yX6_reign cX6_reign 5 none, Cond.fieldLink RX6 148 "DayBenchModel" "kings" "I", Cond.fieldLink RX6 7 "DayBenchModel" "kingCalendar" "[I", Cond.fieldLink RX6 13 "DayBenchModel" "kingFrom" "[I"]
def wsX6_spans_r3 : List Cond := [Cond.fieldLink RX6 16 "DayBenchModel" "kingTo" "[I", Cond.methodLink RX6 145 yX6_behind, Cond.instanceMethod yX6_behind, Cond.selects RX6 yX6_behind yX6_behind, Cond.code yX6_behind cX6_behind 6 (some .int), Cond.fieldLink RX6 133 "DayBenchModel" "foundYear" "I", Cond.fieldLink RX6 136 "DayBenchModel" "foundMonth" "I", Cond.fieldLink RX6 139 "DayBenchModel" "foundDay" "I", Cond.methodLink RX6 142 yX6_finds, Cond.instanceMethod yX6_finds, Cond.selects RX6 yX6_finds yX6_finds, Cond.code yX6_finds cX6_finds 6 (some .boolean)]
def wsX6_spans : List Cond := .code yX6_spans cX6_spans 7 (some .boolean) :: ((wsX6_spans_r1 ++ (wsX6_spans_r2 ++ wsX6_spans_r3)) ++ wsX60)
def wsX6_canSay_r1 : List Cond := [Cond.fieldLink RX6 50 "DayBenchModel" "spanMany" "[I", Cond.fieldLink RX6 158 "DayBenchModel" "sayings" "I", Cond.constant RX6 175 (-40000), Cond.constant RX6 176 (40000), Cond.fieldLink RX6 151 "DayBenchModel" "events" "I", Cond.methodLink RX6 171 yX6_spans, Cond.instanceMethod yX6_spans, Cond.selects RX6 yX6_spans yX6_spans, Cond.initialized RX6, Cond.code yX6_spans cX6_spans 7 (some .boolean), Cond.constant RX6 114 (2000000), Cond.methodLink RX6 124 yX6_isDay, Cond.static yX6_isDay, Cond.code yX6_isDay cX6_isDay 1 (some .boolean), Cond.constant RX6 119 (986000), Cond.methodLink RX6 161 yX6_lays, Cond.instanceMethod yX6_lays, Cond.selects RX6 yX6_lays yX6_lays, Cond.code yX6_lays cX6_lays 6 none, Cond.methodLink RX6 128 Lib.Math.max.name, Cond.static Lib.Math.max.name, Cond.initialized "java/lang/Math", Cond.code Lib.Math.max.name Lib.Math.max.code 2 (some .int), Cond.constant RX6 154 (985999)]
def wsX6_canSay_r2 : List Cond := [Cond.methodLink RX6 155 Lib.Math.min.name, Cond.static Lib.Math.min.name, Cond.code Lib.Math.min.name Lib.Math.min.code 2 (some .int), Cond.fieldLink RX6 44 "DayBenchModel" "spanFrom" "[I", Cond.fieldLink RX6 47 "DayBenchModel" "spanTo" "[I", Cond.methodLink RX6 120 yX6_dayOf, Cond.static yX6_dayOf, Cond.code yX6_dayOf cX6_dayOf 6 (some .int), Cond.methodLink RX6 106 yX6_monthsOf, Cond.static yX6_monthsOf, Cond.code yX6_monthsOf cX6_monthsOf 1 (some .int), Cond.methodLink RX6 110 yX6_lengthOf, Cond.static yX6_lengthOf, Cond.code yX6_lengthOf cX6_lengthOf 3 (some .int), Cond.methodLink RX6 102 yX6_isLeap, Cond.static yX6_isLeap, Cond.code yX6_isLeap cX6_isLeap 2 (some .boolean), Cond.methodLink RX6 115 yX6_yearFrom, Cond.static yX6_yearFrom, Cond.code yX6_yearFrom cX6_yearFrom 3 (some .int), Cond.methodLink RX6 165 yX6_isYear, Cond.instanceMethod yX6_isYear, Cond.selects RX6 yX6_isYear yX6_isYear, Cond.code yX6_isYear cX6_isYear 3 (some .boolean)]
def wsX6_canSay_r3 : List Cond := [Cond.methodLink RX6 168 yX6_reign, Cond.instanceMethod yX6_reign, Cond.selects RX6 yX6_reign yX6_reign, Cond.code yX6_reign cX6_reign 5 none, Cond.fieldLink RX6 148 "DayBenchModel" "kings" "I", Cond.fieldLink RX6 7 "DayBenchModel" "kingCalendar" "[I", Cond.fieldLink RX6 13 "DayBenchModel" "kingFrom" "[I", Cond.fieldLink RX6 16 "DayBenchModel" "kingTo" "[I", Cond.methodLink RX6 145 yX6_behind, Cond.instanceMethod yX6_behind, Cond.selects RX6 yX6_behind yX6_behind, Cond.code yX6_behind cX6_behind 6 (some .int), Cond.fieldLink RX6 133 "DayBenchModel" "foundYear" "I", Cond.fieldLink RX6 136 "DayBenchModel" "foundMonth" "I", Cond.fieldLink RX6 139 "DayBenchModel" "foundDay" "I", Cond.methodLink RX6 142 yX6_finds, Cond.instanceMethod yX6_finds, Cond.selects RX6 yX6_finds yX6_finds, Cond.code yX6_finds cX6_finds 6 (some .boolean)]
def wsX6_canSay : List Cond := .code yX6_canSay cX6_canSay 6 (some .boolean) :: ((wsX6_canSay_r1 ++ (wsX6_canSay_r2 ++ wsX6_canSay_r3)) ++ wsX60)
def wsX6_say_r1 : List Cond := [Cond.fieldLink RX6 98 "DayBenchModel" "thrown" "I", Cond.fieldLink RX6 151 "DayBenchModel" "events" "I", Cond.fieldLink RX6 158 "DayBenchModel" "sayings" "I", Cond.fieldLink RX6 19 "DayBenchModel" "sayEvent" "[I", Cond.fieldLink RX6 22 "DayBenchModel" "sayWhat" "[I", Cond.fieldLink RX6 25 "DayBenchModel" "sayA" "[I", Cond.fieldLink RX6 28 "DayBenchModel" "sayB" "[I", Cond.fieldLink RX6 31 "DayBenchModel" "sayC" "[I", Cond.fieldLink RX6 34 "DayBenchModel" "sayWeight" "[I", Cond.fieldLink RX6 37 "DayBenchModel" "copyOf" "[I", Cond.fieldLink RX6 40 "DayBenchModel" "isTaken" "[Z", Cond.methodLink RX6 177 yX6_canSay, Cond.instanceMethod yX6_canSay, Cond.selects RX6 yX6_canSay yX6_canSay, Cond.initialized RX6, Cond.code yX6_canSay cX6_canSay 6 (some .boolean), Cond.fieldLink RX6 50 "DayBenchModel" "spanMany" "[I", Cond.constant RX6 175 (-40000), Cond.constant RX6 176 (40000), Cond.methodLink RX6 171 yX6_spans, Cond.instanceMethod yX6_spans, Cond.selects RX6 yX6_spans yX6_spans, Cond.code yX6_spans cX6_spans 7 (some .boolean), Cond.constant RX6 114 (2000000)]
def wsX6_say_r2 : List Cond := [Cond.methodLink RX6 124 yX6_isDay, Cond.static yX6_isDay, Cond.code yX6_isDay cX6_isDay 1 (some .boolean), Cond.constant RX6 119 (986000), Cond.methodLink RX6 161 yX6_lays, Cond.instanceMethod yX6_lays, Cond.selects RX6 yX6_lays yX6_lays, Cond.code yX6_lays cX6_lays 6 none, Cond.methodLink RX6 128 Lib.Math.max.name, Cond.static Lib.Math.max.name, Cond.initialized "java/lang/Math", Cond.code Lib.Math.max.name Lib.Math.max.code 2 (some .int), Cond.constant RX6 154 (985999), Cond.methodLink RX6 155 Lib.Math.min.name, Cond.static Lib.Math.min.name, Cond.code Lib.Math.min.name Lib.Math.min.code 2 (some .int), Cond.fieldLink RX6 44 "DayBenchModel" "spanFrom" "[I", Cond.fieldLink RX6 47 "DayBenchModel" "spanTo" "[I", Cond.methodLink RX6 120 yX6_dayOf, Cond.static yX6_dayOf, Cond.code yX6_dayOf cX6_dayOf 6 (some .int), Cond.methodLink RX6 106 yX6_monthsOf, Cond.static yX6_monthsOf, Cond.code yX6_monthsOf cX6_monthsOf 1 (some .int)]
def wsX6_say_r3 : List Cond := [Cond.methodLink RX6 110 yX6_lengthOf, Cond.static yX6_lengthOf, Cond.code yX6_lengthOf cX6_lengthOf 3 (some .int), Cond.methodLink RX6 102 yX6_isLeap, Cond.static yX6_isLeap, Cond.code yX6_isLeap cX6_isLeap 2 (some .boolean), Cond.methodLink RX6 115 yX6_yearFrom, Cond.static yX6_yearFrom, Cond.code yX6_yearFrom cX6_yearFrom 3 (some .int), Cond.methodLink RX6 165 yX6_isYear, Cond.instanceMethod yX6_isYear, Cond.selects RX6 yX6_isYear yX6_isYear, Cond.code yX6_isYear cX6_isYear 3 (some .boolean), Cond.methodLink RX6 168 yX6_reign, Cond.instanceMethod yX6_reign, Cond.selects RX6 yX6_reign yX6_reign, Cond.code yX6_reign cX6_reign 5 none, Cond.fieldLink RX6 148 "DayBenchModel" "kings" "I", Cond.fieldLink RX6 7 "DayBenchModel" "kingCalendar" "[I", Cond.fieldLink RX6 13 "DayBenchModel" "kingFrom" "[I", Cond.fieldLink RX6 16 "DayBenchModel" "kingTo" "[I", Cond.methodLink RX6 145 yX6_behind, Cond.instanceMethod yX6_behind, Cond.selects RX6 yX6_behind yX6_behind]
def wsX6_say_r4 : List Cond := [Cond.code yX6_behind cX6_behind 6 (some .int), Cond.fieldLink RX6 133 "DayBenchModel" "foundYear" "I", Cond.fieldLink RX6 136 "DayBenchModel" "foundMonth" "I", Cond.fieldLink RX6 139 "DayBenchModel" "foundDay" "I", Cond.methodLink RX6 142 yX6_finds, Cond.instanceMethod yX6_finds, Cond.selects RX6 yX6_finds yX6_finds, Cond.code yX6_finds cX6_finds 6 (some .boolean)]
def wsX6_say : List Cond := .code yX6_say cX6_say 7 (some .int) :: ((wsX6_say_r1 ++ (wsX6_say_r2 ++ (wsX6_say_r3 ++ wsX6_say_r4))) ++ wsX60)
def wsX6_isSaying : List Cond := .code yX6_isSaying cX6_isSaying 2 (some .boolean) :: ([.fieldLink RX6 158 "DayBenchModel" "sayings" "I"] ++ wsX60)
def wsX6_copy : List Cond := .code yX6_copy cX6_copy 3 (some .boolean) :: ([.fieldLink RX6 98 "DayBenchModel" "thrown" "I", .fieldLink RX6 37 "DayBenchModel" "copyOf" "[I", .methodLink RX6 181 yX6_isSaying, .instanceMethod yX6_isSaying, .selects RX6 yX6_isSaying yX6_isSaying, .initialized RX6, .code yX6_isSaying cX6_isSaying 2 (some .boolean), .fieldLink RX6 158 "DayBenchModel" "sayings" "I"] ++ wsX60)
def wsX6_take : List Cond := .code yX6_take cX6_take 3 (some .boolean) :: ([.fieldLink RX6 98 "DayBenchModel" "thrown" "I", .fieldLink RX6 40 "DayBenchModel" "isTaken" "[Z", .methodLink RX6 181 yX6_isSaying, .instanceMethod yX6_isSaying, .selects RX6 yX6_isSaying yX6_isSaying, .initialized RX6, .code yX6_isSaying cX6_isSaying 2 (some .boolean), .fieldLink RX6 158 "DayBenchModel" "sayings" "I"] ++ wsX60)
def wsX6_rootOf : List Cond := .code yX6_rootOf cX6_rootOf 3 (some .int) :: ([.fieldLink RX6 37 "DayBenchModel" "copyOf" "[I"] ++ wsX60)
def wsX6_look : List Cond := .code yX6_look cX6_look 3 (some .int) :: ([.fieldLink RX6 98 "DayBenchModel" "thrown" "I", .fieldLink RX6 19 "DayBenchModel" "sayEvent" "[I", .fieldLink RX6 22 "DayBenchModel" "sayWhat" "[I", .fieldLink RX6 34 "DayBenchModel" "sayWeight" "[I", .fieldLink RX6 40 "DayBenchModel" "isTaken" "[Z", .fieldLink RX6 37 "DayBenchModel" "copyOf" "[I", .fieldLink RX6 50 "DayBenchModel" "spanMany" "[I", .methodLink RX6 181 yX6_isSaying, .instanceMethod yX6_isSaying, .selects RX6 yX6_isSaying yX6_isSaying, .initialized RX6, .code yX6_isSaying cX6_isSaying 2 (some .boolean), .fieldLink RX6 158 "DayBenchModel" "sayings" "I", .methodLink RX6 184 yX6_rootOf, .instanceMethod yX6_rootOf, .selects RX6 yX6_rootOf yX6_rootOf, .code yX6_rootOf cX6_rootOf 3 (some .int)] ++ wsX60)
def wsX6_span : List Cond := .code yX6_span cX6_span 4 (some .int) :: ([.fieldLink RX6 98 "DayBenchModel" "thrown" "I", .fieldLink RX6 50 "DayBenchModel" "spanMany" "[I", .fieldLink RX6 47 "DayBenchModel" "spanTo" "[I", .fieldLink RX6 44 "DayBenchModel" "spanFrom" "[I", .methodLink RX6 181 yX6_isSaying, .instanceMethod yX6_isSaying, .selects RX6 yX6_isSaying yX6_isSaying, .initialized RX6, .code yX6_isSaying cX6_isSaying 2 (some .boolean), .fieldLink RX6 158 "DayBenchModel" "sayings" "I"] ++ wsX60)
def wsX6_isAsked : List Cond := .code yX6_isAsked cX6_isAsked 2 (some .boolean) :: ([.fieldLink RX6 187 "DayBenchModel" "asked" "I"] ++ wsX60)
def wsX6_takenAll : List Cond := .code yX6_takenAll cX6_takenAll 3 (some .int) :: ([.fieldLink RX6 158 "DayBenchModel" "sayings" "I", .fieldLink RX6 40 "DayBenchModel" "isTaken" "[Z"] ++ wsX60)
def wsX6_cutsDown : List Cond := .code yX6_cutsDown cX6_cutsDown 8 none :: ([.fieldLink RX6 59 "DayBenchModel" "eventMany" "[I", .fieldLink RX6 50 "DayBenchModel" "spanMany" "[I", .fieldLink RX6 53 "DayBenchModel" "eventFrom" "[I", .fieldLink RX6 44 "DayBenchModel" "spanFrom" "[I", .methodLink RX6 128 Lib.Math.max.name, .static Lib.Math.max.name, .initialized "java/lang/Math", .code Lib.Math.max.name Lib.Math.max.code 2 (some .int), .fieldLink RX6 56 "DayBenchModel" "eventTo" "[I", .fieldLink RX6 47 "DayBenchModel" "spanTo" "[I", .methodLink RX6 155 Lib.Math.min.name, .static Lib.Math.min.name, .code Lib.Math.min.name Lib.Math.min.code 2 (some .int), .fieldLink RX6 62 "DayBenchModel" "newFrom" "[I", .fieldLink RX6 65 "DayBenchModel" "newTo" "[I"] ++ wsX60)
def wsX6_toFind : List Cond := .code yX6_toFind cX6_toFind 4 none :: ([.fieldLink RX6 59 "DayBenchModel" "eventMany" "[I", .fieldLink RX6 203 "DayBenchModel" "findDay" "I", .fieldLink RX6 53 "DayBenchModel" "eventFrom" "[I", .fieldLink RX6 56 "DayBenchModel" "eventTo" "[I"] ++ wsX60)
def wsX6_eventSpans_r1 : List Cond := [Cond.fieldLink RX6 151 "DayBenchModel" "events" "I", Cond.fieldLink RX6 59 "DayBenchModel" "eventMany" "[I", Cond.fieldLink RX6 53 "DayBenchModel" "eventFrom" "[I", Cond.fieldLink RX6 56 "DayBenchModel" "eventTo" "[I", Cond.constant RX6 154 (985999), Cond.fieldLink RX6 158 "DayBenchModel" "sayings" "I", Cond.fieldLink RX6 19 "DayBenchModel" "sayEvent" "[I", Cond.fieldLink RX6 22 "DayBenchModel" "sayWhat" "[I", Cond.fieldLink RX6 196 "DayBenchModel" "findEvent" "I", Cond.methodLink RX6 190 yX6_isAsked, Cond.instanceMethod yX6_isAsked, Cond.selects RX6 yX6_isAsked yX6_isAsked, Cond.initialized RX6, Cond.code yX6_isAsked cX6_isAsked 2 (some .boolean), Cond.fieldLink RX6 187 "DayBenchModel" "asked" "I", Cond.methodLink RX6 193 yX6_cutsDown, Cond.instanceMethod yX6_cutsDown, Cond.selects RX6 yX6_cutsDown yX6_cutsDown, Cond.code yX6_cutsDown cX6_cutsDown 8 none, Cond.fieldLink RX6 50 "DayBenchModel" "spanMany" "[I", Cond.fieldLink RX6 44 "DayBenchModel" "spanFrom" "[I", Cond.methodLink RX6 128 Lib.Math.max.name, Cond.static Lib.Math.max.name, Cond.initialized "java/lang/Math"]
def wsX6_eventSpans_r2 : List Cond := [Cond.code Lib.Math.max.name Lib.Math.max.code 2 (some .int), Cond.fieldLink RX6 47 "DayBenchModel" "spanTo" "[I", Cond.methodLink RX6 155 Lib.Math.min.name, Cond.static Lib.Math.min.name, Cond.code Lib.Math.min.name Lib.Math.min.code 2 (some .int), Cond.fieldLink RX6 62 "DayBenchModel" "newFrom" "[I", Cond.fieldLink RX6 65 "DayBenchModel" "newTo" "[I", Cond.methodLink RX6 199 yX6_toFind, Cond.instanceMethod yX6_toFind, Cond.selects RX6 yX6_toFind yX6_toFind, Cond.code yX6_toFind cX6_toFind 4 none, Cond.fieldLink RX6 203 "DayBenchModel" "findDay" "I"]
def wsX6_eventSpans : List Cond := .code yX6_eventSpans cX6_eventSpans 3 none :: ((wsX6_eventSpans_r1 ++ wsX6_eventSpans_r2) ++ wsX60)
def wsX6_narrows : List Cond := .code yX6_narrows cX6_narrows 6 (some .boolean) :: ([.fieldLink RX6 68 "DayBenchModel" "low" "[I", .fieldLink RX6 71 "DayBenchModel" "high" "[I", .methodLink RX6 128 Lib.Math.max.name, .static Lib.Math.max.name, .initialized "java/lang/Math", .code Lib.Math.max.name Lib.Math.max.code 2 (some .int), .methodLink RX6 155 Lib.Math.min.name, .static Lib.Math.min.name, .code Lib.Math.min.name Lib.Math.min.code 2 (some .int)] ++ wsX60)
def wsX6_canBe_r1 : List Cond := [Cond.fieldLink RX6 151 "DayBenchModel" "events" "I", Cond.fieldLink RX6 68 "DayBenchModel" "low" "[I", Cond.fieldLink RX6 53 "DayBenchModel" "eventFrom" "[I", Cond.fieldLink RX6 74 "DayBenchModel" "took" "[I", Cond.fieldLink RX6 71 "DayBenchModel" "high" "[I", Cond.fieldLink RX6 56 "DayBenchModel" "eventTo" "[I", Cond.constant RX6 154 (985999), Cond.fieldLink RX6 158 "DayBenchModel" "sayings" "I", Cond.fieldLink RX6 22 "DayBenchModel" "sayWhat" "[I", Cond.fieldLink RX6 19 "DayBenchModel" "sayEvent" "[I", Cond.fieldLink RX6 31 "DayBenchModel" "sayC" "[I", Cond.fieldLink RX6 25 "DayBenchModel" "sayA" "[I", Cond.fieldLink RX6 28 "DayBenchModel" "sayB" "[I", Cond.methodLink RX6 190 yX6_isAsked, Cond.instanceMethod yX6_isAsked, Cond.selects RX6 yX6_isAsked yX6_isAsked, Cond.initialized RX6, Cond.code yX6_isAsked cX6_isAsked 2 (some .boolean), Cond.fieldLink RX6 187 "DayBenchModel" "asked" "I", Cond.methodLink RX6 206 yX6_narrows, Cond.instanceMethod yX6_narrows, Cond.selects RX6 yX6_narrows yX6_narrows, Cond.code yX6_narrows cX6_narrows 6 (some .boolean), Cond.methodLink RX6 128 Lib.Math.max.name]
def wsX6_canBe_r2 : List Cond := [Cond.static Lib.Math.max.name, Cond.initialized "java/lang/Math", Cond.code Lib.Math.max.name Lib.Math.max.code 2 (some .int), Cond.methodLink RX6 155 Lib.Math.min.name, Cond.static Lib.Math.min.name, Cond.code Lib.Math.min.name Lib.Math.min.code 2 (some .int)]
def wsX6_canBe : List Cond := .code yX6_canBe cX6_canBe 5 (some .boolean) :: ((wsX6_canBe_r1 ++ wsX6_canBe_r2) ++ wsX60)
def wsX6_widens : List Cond := .code yX6_widens cX6_widens 2 none :: ([.fieldLink RX6 151 "DayBenchModel" "events" "I", .fieldLink RX6 77 "DayBenchModel" "first" "[I", .fieldLink RX6 212 "DayBenchModel" "hasWay" "Z", .fieldLink RX6 68 "DayBenchModel" "low" "[I", .methodLink RX6 155 Lib.Math.min.name, .static Lib.Math.min.name, .initialized "java/lang/Math", .code Lib.Math.min.name Lib.Math.min.code 2 (some .int), .fieldLink RX6 80 "DayBenchModel" "last" "[I", .fieldLink RX6 71 "DayBenchModel" "high" "[I", .methodLink RX6 128 Lib.Math.max.name, .static Lib.Math.max.name, .code Lib.Math.max.name Lib.Math.max.code 2 (some .int)] ++ wsX60)
def wsX6_walks_r1 : List Cond := [Cond.fieldLink RX6 212 "DayBenchModel" "hasWay" "Z", Cond.fieldLink RX6 74 "DayBenchModel" "took" "[I", Cond.fieldLink RX6 151 "DayBenchModel" "events" "I", Cond.fieldLink RX6 216 "DayBenchModel" "isSpent" "Z", Cond.fieldLink RX6 59 "DayBenchModel" "eventMany" "[I", Cond.fieldLink RX6 219 "DayBenchModel" "looks" "I", Cond.methodLink RX6 209 yX6_eventSpans, Cond.instanceMethod yX6_eventSpans, Cond.selects RX6 yX6_eventSpans yX6_eventSpans, Cond.initialized RX6, Cond.code yX6_eventSpans cX6_eventSpans 3 none, Cond.fieldLink RX6 53 "DayBenchModel" "eventFrom" "[I", Cond.fieldLink RX6 56 "DayBenchModel" "eventTo" "[I", Cond.constant RX6 154 (985999), Cond.fieldLink RX6 158 "DayBenchModel" "sayings" "I", Cond.fieldLink RX6 19 "DayBenchModel" "sayEvent" "[I", Cond.fieldLink RX6 22 "DayBenchModel" "sayWhat" "[I", Cond.fieldLink RX6 196 "DayBenchModel" "findEvent" "I", Cond.methodLink RX6 190 yX6_isAsked, Cond.instanceMethod yX6_isAsked, Cond.selects RX6 yX6_isAsked yX6_isAsked, Cond.code yX6_isAsked cX6_isAsked 2 (some .boolean), Cond.fieldLink RX6 187 "DayBenchModel" "asked" "I", Cond.methodLink RX6 193 yX6_cutsDown]
def wsX6_walks_r2 : List Cond := [Cond.instanceMethod yX6_cutsDown, Cond.selects RX6 yX6_cutsDown yX6_cutsDown, Cond.code yX6_cutsDown cX6_cutsDown 8 none, Cond.fieldLink RX6 50 "DayBenchModel" "spanMany" "[I", Cond.fieldLink RX6 44 "DayBenchModel" "spanFrom" "[I", Cond.methodLink RX6 128 Lib.Math.max.name, Cond.static Lib.Math.max.name, Cond.initialized "java/lang/Math", Cond.code Lib.Math.max.name Lib.Math.max.code 2 (some .int), Cond.fieldLink RX6 47 "DayBenchModel" "spanTo" "[I", Cond.methodLink RX6 155 Lib.Math.min.name, Cond.static Lib.Math.min.name, Cond.code Lib.Math.min.name Lib.Math.min.code 2 (some .int), Cond.fieldLink RX6 62 "DayBenchModel" "newFrom" "[I", Cond.fieldLink RX6 65 "DayBenchModel" "newTo" "[I", Cond.methodLink RX6 199 yX6_toFind, Cond.instanceMethod yX6_toFind, Cond.selects RX6 yX6_toFind yX6_toFind, Cond.code yX6_toFind cX6_toFind 4 none, Cond.fieldLink RX6 203 "DayBenchModel" "findDay" "I", Cond.methodLink RX6 222 yX6_canBe, Cond.instanceMethod yX6_canBe, Cond.selects RX6 yX6_canBe yX6_canBe, Cond.code yX6_canBe cX6_canBe 5 (some .boolean)]
def wsX6_walks_r3 : List Cond := [Cond.fieldLink RX6 68 "DayBenchModel" "low" "[I", Cond.fieldLink RX6 71 "DayBenchModel" "high" "[I", Cond.fieldLink RX6 31 "DayBenchModel" "sayC" "[I", Cond.fieldLink RX6 25 "DayBenchModel" "sayA" "[I", Cond.fieldLink RX6 28 "DayBenchModel" "sayB" "[I", Cond.methodLink RX6 206 yX6_narrows, Cond.instanceMethod yX6_narrows, Cond.selects RX6 yX6_narrows yX6_narrows, Cond.code yX6_narrows cX6_narrows 6 (some .boolean), Cond.methodLink RX6 225 yX6_widens, Cond.instanceMethod yX6_widens, Cond.selects RX6 yX6_widens yX6_widens, Cond.code yX6_widens cX6_widens 2 none, Cond.fieldLink RX6 77 "DayBenchModel" "first" "[I", Cond.fieldLink RX6 80 "DayBenchModel" "last" "[I"]
def wsX6_walks : List Cond := .code yX6_walks cX6_walks 3 none :: ((wsX6_walks_r1 ++ (wsX6_walks_r2 ++ wsX6_walks_r3)) ++ wsX60)
def wsX6_begins : List Cond := .code yX6_begins cX6_begins 2 none :: ([.fieldLink RX6 219 "DayBenchModel" "looks" "I", .fieldLink RX6 216 "DayBenchModel" "isSpent" "Z", .fieldLink RX6 187 "DayBenchModel" "asked" "I", .fieldLink RX6 196 "DayBenchModel" "findEvent" "I"] ++ wsX60)
def wsX6_isEvent : List Cond := .code yX6_isEvent cX6_isEvent 2 (some .boolean) :: ([.fieldLink RX6 151 "DayBenchModel" "events" "I"] ++ wsX60)
def wsX6_first_r1 : List Cond := [Cond.fieldLink RX6 98 "DayBenchModel" "thrown" "I", Cond.fieldLink RX6 216 "DayBenchModel" "isSpent" "Z", Cond.fieldLink RX6 212 "DayBenchModel" "hasWay" "Z", Cond.fieldLink RX6 77 "DayBenchModel" "first" "[I", Cond.methodLink RX6 228 yX6_isEvent, Cond.instanceMethod yX6_isEvent, Cond.selects RX6 yX6_isEvent yX6_isEvent, Cond.initialized RX6, Cond.code yX6_isEvent cX6_isEvent 2 (some .boolean), Cond.fieldLink RX6 151 "DayBenchModel" "events" "I", Cond.methodLink RX6 231 yX6_takenAll, Cond.instanceMethod yX6_takenAll, Cond.selects RX6 yX6_takenAll yX6_takenAll, Cond.code yX6_takenAll cX6_takenAll 3 (some .int), Cond.fieldLink RX6 158 "DayBenchModel" "sayings" "I", Cond.fieldLink RX6 40 "DayBenchModel" "isTaken" "[Z", Cond.methodLink RX6 235 yX6_begins, Cond.instanceMethod yX6_begins, Cond.selects RX6 yX6_begins yX6_begins, Cond.code yX6_begins cX6_begins 2 none, Cond.fieldLink RX6 219 "DayBenchModel" "looks" "I", Cond.fieldLink RX6 187 "DayBenchModel" "asked" "I", Cond.fieldLink RX6 196 "DayBenchModel" "findEvent" "I", Cond.methodLink RX6 238 yX6_walks]
def wsX6_first_r2 : List Cond := [Cond.instanceMethod yX6_walks, Cond.selects RX6 yX6_walks yX6_walks, Cond.code yX6_walks cX6_walks 3 none, Cond.fieldLink RX6 74 "DayBenchModel" "took" "[I", Cond.fieldLink RX6 59 "DayBenchModel" "eventMany" "[I", Cond.methodLink RX6 209 yX6_eventSpans, Cond.instanceMethod yX6_eventSpans, Cond.selects RX6 yX6_eventSpans yX6_eventSpans, Cond.code yX6_eventSpans cX6_eventSpans 3 none, Cond.fieldLink RX6 53 "DayBenchModel" "eventFrom" "[I", Cond.fieldLink RX6 56 "DayBenchModel" "eventTo" "[I", Cond.constant RX6 154 (985999), Cond.fieldLink RX6 19 "DayBenchModel" "sayEvent" "[I", Cond.fieldLink RX6 22 "DayBenchModel" "sayWhat" "[I", Cond.methodLink RX6 190 yX6_isAsked, Cond.instanceMethod yX6_isAsked, Cond.selects RX6 yX6_isAsked yX6_isAsked, Cond.code yX6_isAsked cX6_isAsked 2 (some .boolean), Cond.methodLink RX6 193 yX6_cutsDown, Cond.instanceMethod yX6_cutsDown, Cond.selects RX6 yX6_cutsDown yX6_cutsDown, Cond.code yX6_cutsDown cX6_cutsDown 8 none, Cond.fieldLink RX6 50 "DayBenchModel" "spanMany" "[I", Cond.fieldLink RX6 44 "DayBenchModel" "spanFrom" "[I"]
def wsX6_first_r3 : List Cond := [Cond.methodLink RX6 128 Lib.Math.max.name, Cond.static Lib.Math.max.name, Cond.initialized "java/lang/Math", Cond.code Lib.Math.max.name Lib.Math.max.code 2 (some .int), Cond.fieldLink RX6 47 "DayBenchModel" "spanTo" "[I", Cond.methodLink RX6 155 Lib.Math.min.name, Cond.static Lib.Math.min.name, Cond.code Lib.Math.min.name Lib.Math.min.code 2 (some .int), Cond.fieldLink RX6 62 "DayBenchModel" "newFrom" "[I", Cond.fieldLink RX6 65 "DayBenchModel" "newTo" "[I", Cond.methodLink RX6 199 yX6_toFind, Cond.instanceMethod yX6_toFind, Cond.selects RX6 yX6_toFind yX6_toFind, Cond.code yX6_toFind cX6_toFind 4 none, Cond.fieldLink RX6 203 "DayBenchModel" "findDay" "I", Cond.methodLink RX6 222 yX6_canBe, Cond.instanceMethod yX6_canBe, Cond.selects RX6 yX6_canBe yX6_canBe, Cond.code yX6_canBe cX6_canBe 5 (some .boolean), Cond.fieldLink RX6 68 "DayBenchModel" "low" "[I", Cond.fieldLink RX6 71 "DayBenchModel" "high" "[I", Cond.fieldLink RX6 31 "DayBenchModel" "sayC" "[I", Cond.fieldLink RX6 25 "DayBenchModel" "sayA" "[I", Cond.fieldLink RX6 28 "DayBenchModel" "sayB" "[I"]
def wsX6_first_r4 : List Cond := [Cond.methodLink RX6 206 yX6_narrows, Cond.instanceMethod yX6_narrows, Cond.selects RX6 yX6_narrows yX6_narrows, Cond.code yX6_narrows cX6_narrows 6 (some .boolean), Cond.methodLink RX6 225 yX6_widens, Cond.instanceMethod yX6_widens, Cond.selects RX6 yX6_widens yX6_widens, Cond.code yX6_widens cX6_widens 2 none, Cond.fieldLink RX6 80 "DayBenchModel" "last" "[I"]
def wsX6_first : List Cond := .code yX6_first cX6_first 2 (some .int) :: ((wsX6_first_r1 ++ (wsX6_first_r2 ++ (wsX6_first_r3 ++ wsX6_first_r4))) ++ wsX60)
def wsX6_last_r1 : List Cond := [Cond.fieldLink RX6 98 "DayBenchModel" "thrown" "I", Cond.fieldLink RX6 216 "DayBenchModel" "isSpent" "Z", Cond.fieldLink RX6 212 "DayBenchModel" "hasWay" "Z", Cond.fieldLink RX6 80 "DayBenchModel" "last" "[I", Cond.methodLink RX6 228 yX6_isEvent, Cond.instanceMethod yX6_isEvent, Cond.selects RX6 yX6_isEvent yX6_isEvent, Cond.initialized RX6, Cond.code yX6_isEvent cX6_isEvent 2 (some .boolean), Cond.fieldLink RX6 151 "DayBenchModel" "events" "I", Cond.methodLink RX6 231 yX6_takenAll, Cond.instanceMethod yX6_takenAll, Cond.selects RX6 yX6_takenAll yX6_takenAll, Cond.code yX6_takenAll cX6_takenAll 3 (some .int), Cond.fieldLink RX6 158 "DayBenchModel" "sayings" "I", Cond.fieldLink RX6 40 "DayBenchModel" "isTaken" "[Z", Cond.methodLink RX6 235 yX6_begins, Cond.instanceMethod yX6_begins, Cond.selects RX6 yX6_begins yX6_begins, Cond.code yX6_begins cX6_begins 2 none, Cond.fieldLink RX6 219 "DayBenchModel" "looks" "I", Cond.fieldLink RX6 187 "DayBenchModel" "asked" "I", Cond.fieldLink RX6 196 "DayBenchModel" "findEvent" "I", Cond.methodLink RX6 238 yX6_walks]
def wsX6_last_r2 : List Cond := [Cond.instanceMethod yX6_walks, Cond.selects RX6 yX6_walks yX6_walks, Cond.code yX6_walks cX6_walks 3 none, Cond.fieldLink RX6 74 "DayBenchModel" "took" "[I", Cond.fieldLink RX6 59 "DayBenchModel" "eventMany" "[I", Cond.methodLink RX6 209 yX6_eventSpans, Cond.instanceMethod yX6_eventSpans, Cond.selects RX6 yX6_eventSpans yX6_eventSpans, Cond.code yX6_eventSpans cX6_eventSpans 3 none, Cond.fieldLink RX6 53 "DayBenchModel" "eventFrom" "[I", Cond.fieldLink RX6 56 "DayBenchModel" "eventTo" "[I", Cond.constant RX6 154 (985999), Cond.fieldLink RX6 19 "DayBenchModel" "sayEvent" "[I", Cond.fieldLink RX6 22 "DayBenchModel" "sayWhat" "[I", Cond.methodLink RX6 190 yX6_isAsked, Cond.instanceMethod yX6_isAsked, Cond.selects RX6 yX6_isAsked yX6_isAsked, Cond.code yX6_isAsked cX6_isAsked 2 (some .boolean), Cond.methodLink RX6 193 yX6_cutsDown, Cond.instanceMethod yX6_cutsDown, Cond.selects RX6 yX6_cutsDown yX6_cutsDown, Cond.code yX6_cutsDown cX6_cutsDown 8 none, Cond.fieldLink RX6 50 "DayBenchModel" "spanMany" "[I", Cond.fieldLink RX6 44 "DayBenchModel" "spanFrom" "[I"]
def wsX6_last_r3 : List Cond := [Cond.methodLink RX6 128 Lib.Math.max.name, Cond.static Lib.Math.max.name, Cond.initialized "java/lang/Math", Cond.code Lib.Math.max.name Lib.Math.max.code 2 (some .int), Cond.fieldLink RX6 47 "DayBenchModel" "spanTo" "[I", Cond.methodLink RX6 155 Lib.Math.min.name, Cond.static Lib.Math.min.name, Cond.code Lib.Math.min.name Lib.Math.min.code 2 (some .int), Cond.fieldLink RX6 62 "DayBenchModel" "newFrom" "[I", Cond.fieldLink RX6 65 "DayBenchModel" "newTo" "[I", Cond.methodLink RX6 199 yX6_toFind, Cond.instanceMethod yX6_toFind, Cond.selects RX6 yX6_toFind yX6_toFind, Cond.code yX6_toFind cX6_toFind 4 none, Cond.fieldLink RX6 203 "DayBenchModel" "findDay" "I", Cond.methodLink RX6 222 yX6_canBe, Cond.instanceMethod yX6_canBe, Cond.selects RX6 yX6_canBe yX6_canBe, Cond.code yX6_canBe cX6_canBe 5 (some .boolean), Cond.fieldLink RX6 68 "DayBenchModel" "low" "[I", Cond.fieldLink RX6 71 "DayBenchModel" "high" "[I", Cond.fieldLink RX6 31 "DayBenchModel" "sayC" "[I", Cond.fieldLink RX6 25 "DayBenchModel" "sayA" "[I", Cond.fieldLink RX6 28 "DayBenchModel" "sayB" "[I"]
def wsX6_last_r4 : List Cond := [Cond.methodLink RX6 206 yX6_narrows, Cond.instanceMethod yX6_narrows, Cond.selects RX6 yX6_narrows yX6_narrows, Cond.code yX6_narrows cX6_narrows 6 (some .boolean), Cond.methodLink RX6 225 yX6_widens, Cond.instanceMethod yX6_widens, Cond.selects RX6 yX6_widens yX6_widens, Cond.code yX6_widens cX6_widens 2 none, Cond.fieldLink RX6 77 "DayBenchModel" "first" "[I"]
def wsX6_last : List Cond := .code yX6_last cX6_last 2 (some .int) :: ((wsX6_last_r1 ++ (wsX6_last_r2 ++ (wsX6_last_r3 ++ wsX6_last_r4))) ++ wsX60)
def wsX6_can_r1 : List Cond := [Cond.fieldLink RX6 98 "DayBenchModel" "thrown" "I", Cond.fieldLink RX6 196 "DayBenchModel" "findEvent" "I", Cond.fieldLink RX6 203 "DayBenchModel" "findDay" "I", Cond.fieldLink RX6 216 "DayBenchModel" "isSpent" "Z", Cond.fieldLink RX6 212 "DayBenchModel" "hasWay" "Z", Cond.methodLink RX6 228 yX6_isEvent, Cond.instanceMethod yX6_isEvent, Cond.selects RX6 yX6_isEvent yX6_isEvent, Cond.initialized RX6, Cond.code yX6_isEvent cX6_isEvent 2 (some .boolean), Cond.fieldLink RX6 151 "DayBenchModel" "events" "I", Cond.methodLink RX6 124 yX6_isDay, Cond.static yX6_isDay, Cond.code yX6_isDay cX6_isDay 1 (some .boolean), Cond.constant RX6 119 (986000), Cond.methodLink RX6 231 yX6_takenAll, Cond.instanceMethod yX6_takenAll, Cond.selects RX6 yX6_takenAll yX6_takenAll, Cond.code yX6_takenAll cX6_takenAll 3 (some .int), Cond.fieldLink RX6 158 "DayBenchModel" "sayings" "I", Cond.fieldLink RX6 40 "DayBenchModel" "isTaken" "[Z", Cond.methodLink RX6 235 yX6_begins, Cond.instanceMethod yX6_begins, Cond.selects RX6 yX6_begins yX6_begins]
def wsX6_can_r2 : List Cond := [Cond.code yX6_begins cX6_begins 2 none, Cond.fieldLink RX6 219 "DayBenchModel" "looks" "I", Cond.fieldLink RX6 187 "DayBenchModel" "asked" "I", Cond.methodLink RX6 238 yX6_walks, Cond.instanceMethod yX6_walks, Cond.selects RX6 yX6_walks yX6_walks, Cond.code yX6_walks cX6_walks 3 none, Cond.fieldLink RX6 74 "DayBenchModel" "took" "[I", Cond.fieldLink RX6 59 "DayBenchModel" "eventMany" "[I", Cond.methodLink RX6 209 yX6_eventSpans, Cond.instanceMethod yX6_eventSpans, Cond.selects RX6 yX6_eventSpans yX6_eventSpans, Cond.code yX6_eventSpans cX6_eventSpans 3 none, Cond.fieldLink RX6 53 "DayBenchModel" "eventFrom" "[I", Cond.fieldLink RX6 56 "DayBenchModel" "eventTo" "[I", Cond.constant RX6 154 (985999), Cond.fieldLink RX6 19 "DayBenchModel" "sayEvent" "[I", Cond.fieldLink RX6 22 "DayBenchModel" "sayWhat" "[I", Cond.methodLink RX6 190 yX6_isAsked, Cond.instanceMethod yX6_isAsked, Cond.selects RX6 yX6_isAsked yX6_isAsked, Cond.code yX6_isAsked cX6_isAsked 2 (some .boolean), Cond.methodLink RX6 193 yX6_cutsDown, Cond.instanceMethod yX6_cutsDown]
def wsX6_can_r3 : List Cond := [Cond.selects RX6 yX6_cutsDown yX6_cutsDown, Cond.code yX6_cutsDown cX6_cutsDown 8 none, Cond.fieldLink RX6 50 "DayBenchModel" "spanMany" "[I", Cond.fieldLink RX6 44 "DayBenchModel" "spanFrom" "[I", Cond.methodLink RX6 128 Lib.Math.max.name, Cond.static Lib.Math.max.name, Cond.initialized "java/lang/Math", Cond.code Lib.Math.max.name Lib.Math.max.code 2 (some .int), Cond.fieldLink RX6 47 "DayBenchModel" "spanTo" "[I", Cond.methodLink RX6 155 Lib.Math.min.name, Cond.static Lib.Math.min.name, Cond.code Lib.Math.min.name Lib.Math.min.code 2 (some .int), Cond.fieldLink RX6 62 "DayBenchModel" "newFrom" "[I", Cond.fieldLink RX6 65 "DayBenchModel" "newTo" "[I", Cond.methodLink RX6 199 yX6_toFind, Cond.instanceMethod yX6_toFind, Cond.selects RX6 yX6_toFind yX6_toFind, Cond.code yX6_toFind cX6_toFind 4 none, Cond.methodLink RX6 222 yX6_canBe, Cond.instanceMethod yX6_canBe, Cond.selects RX6 yX6_canBe yX6_canBe, Cond.code yX6_canBe cX6_canBe 5 (some .boolean), Cond.fieldLink RX6 68 "DayBenchModel" "low" "[I", Cond.fieldLink RX6 71 "DayBenchModel" "high" "[I"]
def wsX6_can_r4 : List Cond := [Cond.fieldLink RX6 31 "DayBenchModel" "sayC" "[I", Cond.fieldLink RX6 25 "DayBenchModel" "sayA" "[I", Cond.fieldLink RX6 28 "DayBenchModel" "sayB" "[I", Cond.methodLink RX6 206 yX6_narrows, Cond.instanceMethod yX6_narrows, Cond.selects RX6 yX6_narrows yX6_narrows, Cond.code yX6_narrows cX6_narrows 6 (some .boolean), Cond.methodLink RX6 225 yX6_widens, Cond.instanceMethod yX6_widens, Cond.selects RX6 yX6_widens yX6_widens, Cond.code yX6_widens cX6_widens 2 none, Cond.fieldLink RX6 77 "DayBenchModel" "first" "[I", Cond.fieldLink RX6 80 "DayBenchModel" "last" "[I"]
def wsX6_can : List Cond := .code yX6_can cX6_can 3 (some .int) :: ((wsX6_can_r1 ++ (wsX6_can_r2 ++ (wsX6_can_r3 ++ wsX6_can_r4))) ++ wsX60)
def wsX6_agrees_r1 : List Cond := [Cond.fieldLink RX6 98 "DayBenchModel" "thrown" "I", Cond.fieldLink RX6 216 "DayBenchModel" "isSpent" "Z", Cond.fieldLink RX6 212 "DayBenchModel" "hasWay" "Z", Cond.methodLink RX6 231 yX6_takenAll, Cond.instanceMethod yX6_takenAll, Cond.selects RX6 yX6_takenAll yX6_takenAll, Cond.initialized RX6, Cond.code yX6_takenAll cX6_takenAll 3 (some .int), Cond.fieldLink RX6 158 "DayBenchModel" "sayings" "I", Cond.fieldLink RX6 40 "DayBenchModel" "isTaken" "[Z", Cond.methodLink RX6 235 yX6_begins, Cond.instanceMethod yX6_begins, Cond.selects RX6 yX6_begins yX6_begins, Cond.code yX6_begins cX6_begins 2 none, Cond.fieldLink RX6 219 "DayBenchModel" "looks" "I", Cond.fieldLink RX6 187 "DayBenchModel" "asked" "I", Cond.fieldLink RX6 196 "DayBenchModel" "findEvent" "I", Cond.methodLink RX6 238 yX6_walks, Cond.instanceMethod yX6_walks, Cond.selects RX6 yX6_walks yX6_walks, Cond.code yX6_walks cX6_walks 3 none, Cond.fieldLink RX6 74 "DayBenchModel" "took" "[I", Cond.fieldLink RX6 151 "DayBenchModel" "events" "I", Cond.fieldLink RX6 59 "DayBenchModel" "eventMany" "[I"]
def wsX6_agrees_r2 : List Cond := [Cond.methodLink RX6 209 yX6_eventSpans, Cond.instanceMethod yX6_eventSpans, Cond.selects RX6 yX6_eventSpans yX6_eventSpans, Cond.code yX6_eventSpans cX6_eventSpans 3 none, Cond.fieldLink RX6 53 "DayBenchModel" "eventFrom" "[I", Cond.fieldLink RX6 56 "DayBenchModel" "eventTo" "[I", Cond.constant RX6 154 (985999), Cond.fieldLink RX6 19 "DayBenchModel" "sayEvent" "[I", Cond.fieldLink RX6 22 "DayBenchModel" "sayWhat" "[I", Cond.methodLink RX6 190 yX6_isAsked, Cond.instanceMethod yX6_isAsked, Cond.selects RX6 yX6_isAsked yX6_isAsked, Cond.code yX6_isAsked cX6_isAsked 2 (some .boolean), Cond.methodLink RX6 193 yX6_cutsDown, Cond.instanceMethod yX6_cutsDown, Cond.selects RX6 yX6_cutsDown yX6_cutsDown, Cond.code yX6_cutsDown cX6_cutsDown 8 none, Cond.fieldLink RX6 50 "DayBenchModel" "spanMany" "[I", Cond.fieldLink RX6 44 "DayBenchModel" "spanFrom" "[I", Cond.methodLink RX6 128 Lib.Math.max.name, Cond.static Lib.Math.max.name, Cond.initialized "java/lang/Math", Cond.code Lib.Math.max.name Lib.Math.max.code 2 (some .int), Cond.fieldLink RX6 47 "DayBenchModel" "spanTo" "[I"]
def wsX6_agrees_r3 : List Cond := [Cond.methodLink RX6 155 Lib.Math.min.name, Cond.static Lib.Math.min.name, Cond.code Lib.Math.min.name Lib.Math.min.code 2 (some .int), Cond.fieldLink RX6 62 "DayBenchModel" "newFrom" "[I", Cond.fieldLink RX6 65 "DayBenchModel" "newTo" "[I", Cond.methodLink RX6 199 yX6_toFind, Cond.instanceMethod yX6_toFind, Cond.selects RX6 yX6_toFind yX6_toFind, Cond.code yX6_toFind cX6_toFind 4 none, Cond.fieldLink RX6 203 "DayBenchModel" "findDay" "I", Cond.methodLink RX6 222 yX6_canBe, Cond.instanceMethod yX6_canBe, Cond.selects RX6 yX6_canBe yX6_canBe, Cond.code yX6_canBe cX6_canBe 5 (some .boolean), Cond.fieldLink RX6 68 "DayBenchModel" "low" "[I", Cond.fieldLink RX6 71 "DayBenchModel" "high" "[I", Cond.fieldLink RX6 31 "DayBenchModel" "sayC" "[I", Cond.fieldLink RX6 25 "DayBenchModel" "sayA" "[I", Cond.fieldLink RX6 28 "DayBenchModel" "sayB" "[I", Cond.methodLink RX6 206 yX6_narrows, Cond.instanceMethod yX6_narrows, Cond.selects RX6 yX6_narrows yX6_narrows, Cond.code yX6_narrows cX6_narrows 6 (some .boolean), Cond.methodLink RX6 225 yX6_widens]
def wsX6_agrees_r4 : List Cond := [Cond.instanceMethod yX6_widens, Cond.selects RX6 yX6_widens yX6_widens, Cond.code yX6_widens cX6_widens 2 none, Cond.fieldLink RX6 77 "DayBenchModel" "first" "[I", Cond.fieldLink RX6 80 "DayBenchModel" "last" "[I"]
def wsX6_agrees : List Cond := .code yX6_agrees cX6_agrees 1 (some .int) :: ((wsX6_agrees_r1 ++ (wsX6_agrees_r2 ++ (wsX6_agrees_r3 ++ wsX6_agrees_r4))) ++ wsX60)
def wsX6_bitsOf : List Cond := .code yX6_bitsOf cX6_bitsOf 3 (some .int) :: ([])
def wsX6_isAhead : List Cond := .code yX6_isAhead cX6_isAhead 3 (some .boolean) :: ([])
def wsX6_nextOf : List Cond := .code yX6_nextOf cX6_nextOf 6 (some .int) :: ([.fieldLink RX6 158 "DayBenchModel" "sayings" "I", .methodLink RX6 245 yX6_bitsOf, .static yX6_bitsOf, .initialized RX6, .code yX6_bitsOf cX6_bitsOf 3 (some .int), .methodLink RX6 248 yX6_isAhead, .static yX6_isAhead, .code yX6_isAhead cX6_isAhead 3 (some .boolean)] ++ wsX60)
def wsX6_quarrel_r1 : List Cond := [Cond.fieldLink RX6 98 "DayBenchModel" "thrown" "I", Cond.fieldLink RX6 216 "DayBenchModel" "isSpent" "Z", Cond.fieldLink RX6 212 "DayBenchModel" "hasWay" "Z", Cond.fieldLink RX6 187 "DayBenchModel" "asked" "I", Cond.methodLink RX6 231 yX6_takenAll, Cond.instanceMethod yX6_takenAll, Cond.selects RX6 yX6_takenAll yX6_takenAll, Cond.initialized RX6, Cond.code yX6_takenAll cX6_takenAll 3 (some .int), Cond.fieldLink RX6 158 "DayBenchModel" "sayings" "I", Cond.fieldLink RX6 40 "DayBenchModel" "isTaken" "[Z", Cond.methodLink RX6 235 yX6_begins, Cond.instanceMethod yX6_begins, Cond.selects RX6 yX6_begins yX6_begins, Cond.code yX6_begins cX6_begins 2 none, Cond.fieldLink RX6 219 "DayBenchModel" "looks" "I", Cond.fieldLink RX6 196 "DayBenchModel" "findEvent" "I", Cond.methodLink RX6 238 yX6_walks, Cond.instanceMethod yX6_walks, Cond.selects RX6 yX6_walks yX6_walks, Cond.code yX6_walks cX6_walks 3 none, Cond.fieldLink RX6 74 "DayBenchModel" "took" "[I", Cond.fieldLink RX6 151 "DayBenchModel" "events" "I", Cond.fieldLink RX6 59 "DayBenchModel" "eventMany" "[I"]
def wsX6_quarrel_r2 : List Cond := [Cond.methodLink RX6 209 yX6_eventSpans, Cond.instanceMethod yX6_eventSpans, Cond.selects RX6 yX6_eventSpans yX6_eventSpans, Cond.code yX6_eventSpans cX6_eventSpans 3 none, Cond.fieldLink RX6 53 "DayBenchModel" "eventFrom" "[I", Cond.fieldLink RX6 56 "DayBenchModel" "eventTo" "[I", Cond.constant RX6 154 (985999), Cond.fieldLink RX6 19 "DayBenchModel" "sayEvent" "[I", Cond.fieldLink RX6 22 "DayBenchModel" "sayWhat" "[I", Cond.methodLink RX6 190 yX6_isAsked, Cond.instanceMethod yX6_isAsked, Cond.selects RX6 yX6_isAsked yX6_isAsked, Cond.code yX6_isAsked cX6_isAsked 2 (some .boolean), Cond.methodLink RX6 193 yX6_cutsDown, Cond.instanceMethod yX6_cutsDown, Cond.selects RX6 yX6_cutsDown yX6_cutsDown, Cond.code yX6_cutsDown cX6_cutsDown 8 none, Cond.fieldLink RX6 50 "DayBenchModel" "spanMany" "[I", Cond.fieldLink RX6 44 "DayBenchModel" "spanFrom" "[I", Cond.methodLink RX6 128 Lib.Math.max.name, Cond.static Lib.Math.max.name, Cond.initialized "java/lang/Math", Cond.code Lib.Math.max.name Lib.Math.max.code 2 (some .int), Cond.fieldLink RX6 47 "DayBenchModel" "spanTo" "[I"]
def wsX6_quarrel_r3 : List Cond := [Cond.methodLink RX6 155 Lib.Math.min.name, Cond.static Lib.Math.min.name, Cond.code Lib.Math.min.name Lib.Math.min.code 2 (some .int), Cond.fieldLink RX6 62 "DayBenchModel" "newFrom" "[I", Cond.fieldLink RX6 65 "DayBenchModel" "newTo" "[I", Cond.methodLink RX6 199 yX6_toFind, Cond.instanceMethod yX6_toFind, Cond.selects RX6 yX6_toFind yX6_toFind, Cond.code yX6_toFind cX6_toFind 4 none, Cond.fieldLink RX6 203 "DayBenchModel" "findDay" "I", Cond.methodLink RX6 222 yX6_canBe, Cond.instanceMethod yX6_canBe, Cond.selects RX6 yX6_canBe yX6_canBe, Cond.code yX6_canBe cX6_canBe 5 (some .boolean), Cond.fieldLink RX6 68 "DayBenchModel" "low" "[I", Cond.fieldLink RX6 71 "DayBenchModel" "high" "[I", Cond.fieldLink RX6 31 "DayBenchModel" "sayC" "[I", Cond.fieldLink RX6 25 "DayBenchModel" "sayA" "[I", Cond.fieldLink RX6 28 "DayBenchModel" "sayB" "[I", Cond.methodLink RX6 206 yX6_narrows, Cond.instanceMethod yX6_narrows, Cond.selects RX6 yX6_narrows yX6_narrows, Cond.code yX6_narrows cX6_narrows 6 (some .boolean), Cond.methodLink RX6 225 yX6_widens]
def wsX6_quarrel_r4 : List Cond := [Cond.instanceMethod yX6_widens, Cond.selects RX6 yX6_widens yX6_widens, Cond.code yX6_widens cX6_widens 2 none, Cond.fieldLink RX6 77 "DayBenchModel" "first" "[I", Cond.fieldLink RX6 80 "DayBenchModel" "last" "[I", Cond.methodLink RX6 242 yX6_nextOf, Cond.instanceMethod yX6_nextOf, Cond.selects RX6 yX6_nextOf yX6_nextOf, Cond.code yX6_nextOf cX6_nextOf 6 (some .int), Cond.methodLink RX6 245 yX6_bitsOf, Cond.static yX6_bitsOf, Cond.code yX6_bitsOf cX6_bitsOf 3 (some .int), Cond.methodLink RX6 248 yX6_isAhead, Cond.static yX6_isAhead, Cond.code yX6_isAhead cX6_isAhead 3 (some .boolean)]
def wsX6_quarrel : List Cond := .code yX6_quarrel cX6_quarrel 4 (some .int) :: ((wsX6_quarrel_r1 ++ (wsX6_quarrel_r2 ++ (wsX6_quarrel_r3 ++ wsX6_quarrel_r4))) ++ wsX60)
def wsX6_rootsTaken : List Cond := .code yX6_rootsTaken cX6_rootsTaken 5 (some .int) :: ([.fieldLink RX6 158 "DayBenchModel" "sayings" "I", .fieldLink RX6 40 "DayBenchModel" "isTaken" "[Z", .fieldLink RX6 89 "DayBenchModel" "roots" "[I", .methodLink RX6 184 yX6_rootOf, .instanceMethod yX6_rootOf, .selects RX6 yX6_rootOf yX6_rootOf, .initialized RX6, .code yX6_rootOf cX6_rootOf 3 (some .int), .fieldLink RX6 37 "DayBenchModel" "copyOf" "[I"] ++ wsX60)
def wsX6_without : List Cond := .code yX6_without cX6_without 4 (some .int) :: ([.fieldLink RX6 158 "DayBenchModel" "sayings" "I", .fieldLink RX6 40 "DayBenchModel" "isTaken" "[Z", .methodLink RX6 184 yX6_rootOf, .instanceMethod yX6_rootOf, .selects RX6 yX6_rootOf yX6_rootOf, .initialized RX6, .code yX6_rootOf cX6_rootOf 3 (some .int), .fieldLink RX6 37 "DayBenchModel" "copyOf" "[I"] ++ wsX60)
def wsX6_slips_r1 : List Cond := [Cond.fieldLink RX6 98 "DayBenchModel" "thrown" "I", Cond.fieldLink RX6 34 "DayBenchModel" "sayWeight" "[I", Cond.fieldLink RX6 89 "DayBenchModel" "roots" "[I", Cond.fieldLink RX6 187 "DayBenchModel" "asked" "I", Cond.fieldLink RX6 216 "DayBenchModel" "isSpent" "Z", Cond.fieldLink RX6 212 "DayBenchModel" "hasWay" "Z", Cond.fieldLink RX6 86 "DayBenchModel" "newSets" "[I", Cond.fieldLink RX6 257 "DayBenchModel" "slipMany" "I", Cond.fieldLink RX6 83 "DayBenchModel" "slipSets" "[I", Cond.methodLink RX6 251 yX6_rootsTaken, Cond.instanceMethod yX6_rootsTaken, Cond.selects RX6 yX6_rootsTaken yX6_rootsTaken, Cond.initialized RX6, Cond.code yX6_rootsTaken cX6_rootsTaken 5 (some .int), Cond.fieldLink RX6 158 "DayBenchModel" "sayings" "I", Cond.fieldLink RX6 40 "DayBenchModel" "isTaken" "[Z", Cond.methodLink RX6 184 yX6_rootOf, Cond.instanceMethod yX6_rootOf, Cond.selects RX6 yX6_rootOf yX6_rootOf, Cond.code yX6_rootOf cX6_rootOf 3 (some .int), Cond.fieldLink RX6 37 "DayBenchModel" "copyOf" "[I", Cond.methodLink RX6 231 yX6_takenAll, Cond.instanceMethod yX6_takenAll, Cond.selects RX6 yX6_takenAll yX6_takenAll]
def wsX6_slips_r2 : List Cond := [Cond.code yX6_takenAll cX6_takenAll 3 (some .int), Cond.methodLink RX6 235 yX6_begins, Cond.instanceMethod yX6_begins, Cond.selects RX6 yX6_begins yX6_begins, Cond.code yX6_begins cX6_begins 2 none, Cond.fieldLink RX6 219 "DayBenchModel" "looks" "I", Cond.fieldLink RX6 196 "DayBenchModel" "findEvent" "I", Cond.methodLink RX6 254 yX6_without, Cond.instanceMethod yX6_without, Cond.selects RX6 yX6_without yX6_without, Cond.code yX6_without cX6_without 4 (some .int), Cond.methodLink RX6 238 yX6_walks, Cond.instanceMethod yX6_walks, Cond.selects RX6 yX6_walks yX6_walks, Cond.code yX6_walks cX6_walks 3 none, Cond.fieldLink RX6 74 "DayBenchModel" "took" "[I", Cond.fieldLink RX6 151 "DayBenchModel" "events" "I", Cond.fieldLink RX6 59 "DayBenchModel" "eventMany" "[I", Cond.methodLink RX6 209 yX6_eventSpans, Cond.instanceMethod yX6_eventSpans, Cond.selects RX6 yX6_eventSpans yX6_eventSpans, Cond.code yX6_eventSpans cX6_eventSpans 3 none, Cond.fieldLink RX6 53 "DayBenchModel" "eventFrom" "[I", Cond.fieldLink RX6 56 "DayBenchModel" "eventTo" "[I"]
def wsX6_slips_r3 : List Cond := [Cond.constant RX6 154 (985999), Cond.fieldLink RX6 19 "DayBenchModel" "sayEvent" "[I", Cond.fieldLink RX6 22 "DayBenchModel" "sayWhat" "[I", Cond.methodLink RX6 190 yX6_isAsked, Cond.instanceMethod yX6_isAsked, Cond.selects RX6 yX6_isAsked yX6_isAsked, Cond.code yX6_isAsked cX6_isAsked 2 (some .boolean), Cond.methodLink RX6 193 yX6_cutsDown, Cond.instanceMethod yX6_cutsDown, Cond.selects RX6 yX6_cutsDown yX6_cutsDown, Cond.code yX6_cutsDown cX6_cutsDown 8 none, Cond.fieldLink RX6 50 "DayBenchModel" "spanMany" "[I", Cond.fieldLink RX6 44 "DayBenchModel" "spanFrom" "[I", Cond.methodLink RX6 128 Lib.Math.max.name, Cond.static Lib.Math.max.name, Cond.initialized "java/lang/Math", Cond.code Lib.Math.max.name Lib.Math.max.code 2 (some .int), Cond.fieldLink RX6 47 "DayBenchModel" "spanTo" "[I", Cond.methodLink RX6 155 Lib.Math.min.name, Cond.static Lib.Math.min.name, Cond.code Lib.Math.min.name Lib.Math.min.code 2 (some .int), Cond.fieldLink RX6 62 "DayBenchModel" "newFrom" "[I", Cond.fieldLink RX6 65 "DayBenchModel" "newTo" "[I", Cond.methodLink RX6 199 yX6_toFind]
def wsX6_slips_r4 : List Cond := [Cond.instanceMethod yX6_toFind, Cond.selects RX6 yX6_toFind yX6_toFind, Cond.code yX6_toFind cX6_toFind 4 none, Cond.fieldLink RX6 203 "DayBenchModel" "findDay" "I", Cond.methodLink RX6 222 yX6_canBe, Cond.instanceMethod yX6_canBe, Cond.selects RX6 yX6_canBe yX6_canBe, Cond.code yX6_canBe cX6_canBe 5 (some .boolean), Cond.fieldLink RX6 68 "DayBenchModel" "low" "[I", Cond.fieldLink RX6 71 "DayBenchModel" "high" "[I", Cond.fieldLink RX6 31 "DayBenchModel" "sayC" "[I", Cond.fieldLink RX6 25 "DayBenchModel" "sayA" "[I", Cond.fieldLink RX6 28 "DayBenchModel" "sayB" "[I", Cond.methodLink RX6 206 yX6_narrows, Cond.instanceMethod yX6_narrows, Cond.selects RX6 yX6_narrows yX6_narrows, Cond.code yX6_narrows cX6_narrows 6 (some .boolean), Cond.methodLink RX6 225 yX6_widens, Cond.instanceMethod yX6_widens, Cond.selects RX6 yX6_widens yX6_widens, Cond.code yX6_widens cX6_widens 2 none, Cond.fieldLink RX6 77 "DayBenchModel" "first" "[I", Cond.fieldLink RX6 80 "DayBenchModel" "last" "[I"]
def wsX6_slips : List Cond := .code yX6_slips cX6_slips 8 (some .int) :: ((wsX6_slips_r1 ++ (wsX6_slips_r2 ++ (wsX6_slips_r3 ++ wsX6_slips_r4))) ++ wsX60)
def wsX6_slipped : List Cond := .code yX6_slipped cX6_slipped 2 (some .int) :: ([.fieldLink RX6 98 "DayBenchModel" "thrown" "I", .fieldLink RX6 257 "DayBenchModel" "slipMany" "I", .fieldLink RX6 83 "DayBenchModel" "slipSets" "[I"] ++ wsX60)
def wsX6_widthOf_r1 : List Cond := [Cond.fieldLink RX6 196 "DayBenchModel" "findEvent" "I", Cond.fieldLink RX6 203 "DayBenchModel" "findDay" "I", Cond.fieldLink RX6 216 "DayBenchModel" "isSpent" "Z", Cond.fieldLink RX6 212 "DayBenchModel" "hasWay" "Z", Cond.fieldLink RX6 151 "DayBenchModel" "events" "I", Cond.fieldLink RX6 80 "DayBenchModel" "last" "[I", Cond.fieldLink RX6 77 "DayBenchModel" "first" "[I", Cond.methodLink RX6 231 yX6_takenAll, Cond.instanceMethod yX6_takenAll, Cond.selects RX6 yX6_takenAll yX6_takenAll, Cond.initialized RX6, Cond.code yX6_takenAll cX6_takenAll 3 (some .int), Cond.fieldLink RX6 158 "DayBenchModel" "sayings" "I", Cond.fieldLink RX6 40 "DayBenchModel" "isTaken" "[Z", Cond.methodLink RX6 235 yX6_begins, Cond.instanceMethod yX6_begins, Cond.selects RX6 yX6_begins yX6_begins, Cond.code yX6_begins cX6_begins 2 none, Cond.fieldLink RX6 219 "DayBenchModel" "looks" "I", Cond.fieldLink RX6 187 "DayBenchModel" "asked" "I", Cond.methodLink RX6 238 yX6_walks, Cond.instanceMethod yX6_walks, Cond.selects RX6 yX6_walks yX6_walks, Cond.code yX6_walks cX6_walks 3 none]
def wsX6_widthOf_r2 : List Cond := [Cond.fieldLink RX6 74 "DayBenchModel" "took" "[I", Cond.fieldLink RX6 59 "DayBenchModel" "eventMany" "[I", Cond.methodLink RX6 209 yX6_eventSpans, Cond.instanceMethod yX6_eventSpans, Cond.selects RX6 yX6_eventSpans yX6_eventSpans, Cond.code yX6_eventSpans cX6_eventSpans 3 none, Cond.fieldLink RX6 53 "DayBenchModel" "eventFrom" "[I", Cond.fieldLink RX6 56 "DayBenchModel" "eventTo" "[I", Cond.constant RX6 154 (985999), Cond.fieldLink RX6 19 "DayBenchModel" "sayEvent" "[I", Cond.fieldLink RX6 22 "DayBenchModel" "sayWhat" "[I", Cond.methodLink RX6 190 yX6_isAsked, Cond.instanceMethod yX6_isAsked, Cond.selects RX6 yX6_isAsked yX6_isAsked, Cond.code yX6_isAsked cX6_isAsked 2 (some .boolean), Cond.methodLink RX6 193 yX6_cutsDown, Cond.instanceMethod yX6_cutsDown, Cond.selects RX6 yX6_cutsDown yX6_cutsDown, Cond.code yX6_cutsDown cX6_cutsDown 8 none, Cond.fieldLink RX6 50 "DayBenchModel" "spanMany" "[I", Cond.fieldLink RX6 44 "DayBenchModel" "spanFrom" "[I", Cond.methodLink RX6 128 Lib.Math.max.name, Cond.static Lib.Math.max.name, Cond.initialized "java/lang/Math"]
def wsX6_widthOf_r3 : List Cond := [Cond.code Lib.Math.max.name Lib.Math.max.code 2 (some .int), Cond.fieldLink RX6 47 "DayBenchModel" "spanTo" "[I", Cond.methodLink RX6 155 Lib.Math.min.name, Cond.static Lib.Math.min.name, Cond.code Lib.Math.min.name Lib.Math.min.code 2 (some .int), Cond.fieldLink RX6 62 "DayBenchModel" "newFrom" "[I", Cond.fieldLink RX6 65 "DayBenchModel" "newTo" "[I", Cond.methodLink RX6 199 yX6_toFind, Cond.instanceMethod yX6_toFind, Cond.selects RX6 yX6_toFind yX6_toFind, Cond.code yX6_toFind cX6_toFind 4 none, Cond.methodLink RX6 222 yX6_canBe, Cond.instanceMethod yX6_canBe, Cond.selects RX6 yX6_canBe yX6_canBe, Cond.code yX6_canBe cX6_canBe 5 (some .boolean), Cond.fieldLink RX6 68 "DayBenchModel" "low" "[I", Cond.fieldLink RX6 71 "DayBenchModel" "high" "[I", Cond.fieldLink RX6 31 "DayBenchModel" "sayC" "[I", Cond.fieldLink RX6 25 "DayBenchModel" "sayA" "[I", Cond.fieldLink RX6 28 "DayBenchModel" "sayB" "[I", Cond.methodLink RX6 206 yX6_narrows, Cond.instanceMethod yX6_narrows, Cond.selects RX6 yX6_narrows yX6_narrows, Cond.code yX6_narrows cX6_narrows 6 (some .boolean)]
def wsX6_widthOf_r4 : List Cond := [Cond.methodLink RX6 225 yX6_widens, Cond.instanceMethod yX6_widens, Cond.selects RX6 yX6_widens yX6_widens, Cond.code yX6_widens cX6_widens 2 none]
def wsX6_widthOf : List Cond := .code yX6_widthOf cX6_widthOf 5 (some .int) :: ((wsX6_widthOf_r1 ++ (wsX6_widthOf_r2 ++ (wsX6_widthOf_r3 ++ wsX6_widthOf_r4))) ++ wsX60)
def wsX6_width_r1 : List Cond := [Cond.fieldLink RX6 98 "DayBenchModel" "thrown" "I", Cond.methodLink RX6 228 yX6_isEvent, Cond.instanceMethod yX6_isEvent, Cond.selects RX6 yX6_isEvent yX6_isEvent, Cond.initialized RX6, Cond.code yX6_isEvent cX6_isEvent 2 (some .boolean), Cond.fieldLink RX6 151 "DayBenchModel" "events" "I", Cond.methodLink RX6 124 yX6_isDay, Cond.static yX6_isDay, Cond.code yX6_isDay cX6_isDay 1 (some .boolean), Cond.constant RX6 119 (986000), Cond.methodLink RX6 260 yX6_widthOf, Cond.instanceMethod yX6_widthOf, Cond.selects RX6 yX6_widthOf yX6_widthOf, Cond.code yX6_widthOf cX6_widthOf 5 (some .int), Cond.fieldLink RX6 196 "DayBenchModel" "findEvent" "I", Cond.fieldLink RX6 203 "DayBenchModel" "findDay" "I", Cond.fieldLink RX6 216 "DayBenchModel" "isSpent" "Z", Cond.fieldLink RX6 212 "DayBenchModel" "hasWay" "Z", Cond.fieldLink RX6 80 "DayBenchModel" "last" "[I", Cond.fieldLink RX6 77 "DayBenchModel" "first" "[I", Cond.methodLink RX6 231 yX6_takenAll, Cond.instanceMethod yX6_takenAll, Cond.selects RX6 yX6_takenAll yX6_takenAll]
def wsX6_width_r2 : List Cond := [Cond.code yX6_takenAll cX6_takenAll 3 (some .int), Cond.fieldLink RX6 158 "DayBenchModel" "sayings" "I", Cond.fieldLink RX6 40 "DayBenchModel" "isTaken" "[Z", Cond.methodLink RX6 235 yX6_begins, Cond.instanceMethod yX6_begins, Cond.selects RX6 yX6_begins yX6_begins, Cond.code yX6_begins cX6_begins 2 none, Cond.fieldLink RX6 219 "DayBenchModel" "looks" "I", Cond.fieldLink RX6 187 "DayBenchModel" "asked" "I", Cond.methodLink RX6 238 yX6_walks, Cond.instanceMethod yX6_walks, Cond.selects RX6 yX6_walks yX6_walks, Cond.code yX6_walks cX6_walks 3 none, Cond.fieldLink RX6 74 "DayBenchModel" "took" "[I", Cond.fieldLink RX6 59 "DayBenchModel" "eventMany" "[I", Cond.methodLink RX6 209 yX6_eventSpans, Cond.instanceMethod yX6_eventSpans, Cond.selects RX6 yX6_eventSpans yX6_eventSpans, Cond.code yX6_eventSpans cX6_eventSpans 3 none, Cond.fieldLink RX6 53 "DayBenchModel" "eventFrom" "[I", Cond.fieldLink RX6 56 "DayBenchModel" "eventTo" "[I", Cond.constant RX6 154 (985999), Cond.fieldLink RX6 19 "DayBenchModel" "sayEvent" "[I", Cond.fieldLink RX6 22 "DayBenchModel" "sayWhat" "[I"]
def wsX6_width_r3 : List Cond := [Cond.methodLink RX6 190 yX6_isAsked, Cond.instanceMethod yX6_isAsked, Cond.selects RX6 yX6_isAsked yX6_isAsked, Cond.code yX6_isAsked cX6_isAsked 2 (some .boolean), Cond.methodLink RX6 193 yX6_cutsDown, Cond.instanceMethod yX6_cutsDown, Cond.selects RX6 yX6_cutsDown yX6_cutsDown, Cond.code yX6_cutsDown cX6_cutsDown 8 none, Cond.fieldLink RX6 50 "DayBenchModel" "spanMany" "[I", Cond.fieldLink RX6 44 "DayBenchModel" "spanFrom" "[I", Cond.methodLink RX6 128 Lib.Math.max.name, Cond.static Lib.Math.max.name, Cond.initialized "java/lang/Math", Cond.code Lib.Math.max.name Lib.Math.max.code 2 (some .int), Cond.fieldLink RX6 47 "DayBenchModel" "spanTo" "[I", Cond.methodLink RX6 155 Lib.Math.min.name, Cond.static Lib.Math.min.name, Cond.code Lib.Math.min.name Lib.Math.min.code 2 (some .int), Cond.fieldLink RX6 62 "DayBenchModel" "newFrom" "[I", Cond.fieldLink RX6 65 "DayBenchModel" "newTo" "[I", Cond.methodLink RX6 199 yX6_toFind, Cond.instanceMethod yX6_toFind, Cond.selects RX6 yX6_toFind yX6_toFind, Cond.code yX6_toFind cX6_toFind 4 none]
def wsX6_width_r4 : List Cond := [Cond.methodLink RX6 222 yX6_canBe, Cond.instanceMethod yX6_canBe, Cond.selects RX6 yX6_canBe yX6_canBe, Cond.code yX6_canBe cX6_canBe 5 (some .boolean), Cond.fieldLink RX6 68 "DayBenchModel" "low" "[I", Cond.fieldLink RX6 71 "DayBenchModel" "high" "[I", Cond.fieldLink RX6 31 "DayBenchModel" "sayC" "[I", Cond.fieldLink RX6 25 "DayBenchModel" "sayA" "[I", Cond.fieldLink RX6 28 "DayBenchModel" "sayB" "[I", Cond.methodLink RX6 206 yX6_narrows, Cond.instanceMethod yX6_narrows, Cond.selects RX6 yX6_narrows yX6_narrows, Cond.code yX6_narrows cX6_narrows 6 (some .boolean), Cond.methodLink RX6 225 yX6_widens, Cond.instanceMethod yX6_widens, Cond.selects RX6 yX6_widens yX6_widens, Cond.code yX6_widens cX6_widens 2 none]
def wsX6_width : List Cond := .code yX6_width cX6_width 4 (some .int) :: ((wsX6_width_r1 ++ (wsX6_width_r2 ++ (wsX6_width_r3 ++ wsX6_width_r4))) ++ wsX60)
def wsX6_settles_r1 : List Cond := [Cond.fieldLink RX6 98 "DayBenchModel" "thrown" "I", Cond.fieldLink RX6 151 "DayBenchModel" "events" "I", Cond.fieldLink RX6 92 "DayBenchModel" "ownFirst" "[I", Cond.fieldLink RX6 77 "DayBenchModel" "first" "[I", Cond.fieldLink RX6 95 "DayBenchModel" "ownLast" "[I", Cond.fieldLink RX6 80 "DayBenchModel" "last" "[I", Cond.methodLink RX6 128 Lib.Math.max.name, Cond.static Lib.Math.max.name, Cond.initialized "java/lang/Math", Cond.code Lib.Math.max.name Lib.Math.max.code 2 (some .int), Cond.methodLink RX6 260 yX6_widthOf, Cond.instanceMethod yX6_widthOf, Cond.selects RX6 yX6_widthOf yX6_widthOf, Cond.initialized RX6, Cond.code yX6_widthOf cX6_widthOf 5 (some .int), Cond.fieldLink RX6 196 "DayBenchModel" "findEvent" "I", Cond.fieldLink RX6 203 "DayBenchModel" "findDay" "I", Cond.fieldLink RX6 216 "DayBenchModel" "isSpent" "Z", Cond.fieldLink RX6 212 "DayBenchModel" "hasWay" "Z", Cond.methodLink RX6 231 yX6_takenAll, Cond.instanceMethod yX6_takenAll, Cond.selects RX6 yX6_takenAll yX6_takenAll, Cond.code yX6_takenAll cX6_takenAll 3 (some .int), Cond.fieldLink RX6 158 "DayBenchModel" "sayings" "I"]
def wsX6_settles_r2 : List Cond := [Cond.fieldLink RX6 40 "DayBenchModel" "isTaken" "[Z", Cond.methodLink RX6 235 yX6_begins, Cond.instanceMethod yX6_begins, Cond.selects RX6 yX6_begins yX6_begins, Cond.code yX6_begins cX6_begins 2 none, Cond.fieldLink RX6 219 "DayBenchModel" "looks" "I", Cond.fieldLink RX6 187 "DayBenchModel" "asked" "I", Cond.methodLink RX6 238 yX6_walks, Cond.instanceMethod yX6_walks, Cond.selects RX6 yX6_walks yX6_walks, Cond.code yX6_walks cX6_walks 3 none, Cond.fieldLink RX6 74 "DayBenchModel" "took" "[I", Cond.fieldLink RX6 59 "DayBenchModel" "eventMany" "[I", Cond.methodLink RX6 209 yX6_eventSpans, Cond.instanceMethod yX6_eventSpans, Cond.selects RX6 yX6_eventSpans yX6_eventSpans, Cond.code yX6_eventSpans cX6_eventSpans 3 none, Cond.fieldLink RX6 53 "DayBenchModel" "eventFrom" "[I", Cond.fieldLink RX6 56 "DayBenchModel" "eventTo" "[I", Cond.constant RX6 154 (985999), Cond.fieldLink RX6 19 "DayBenchModel" "sayEvent" "[I", Cond.fieldLink RX6 22 "DayBenchModel" "sayWhat" "[I", Cond.methodLink RX6 190 yX6_isAsked, Cond.instanceMethod yX6_isAsked]
def wsX6_settles_r3 : List Cond := [Cond.selects RX6 yX6_isAsked yX6_isAsked, Cond.code yX6_isAsked cX6_isAsked 2 (some .boolean), Cond.methodLink RX6 193 yX6_cutsDown, Cond.instanceMethod yX6_cutsDown, Cond.selects RX6 yX6_cutsDown yX6_cutsDown, Cond.code yX6_cutsDown cX6_cutsDown 8 none, Cond.fieldLink RX6 50 "DayBenchModel" "spanMany" "[I", Cond.fieldLink RX6 44 "DayBenchModel" "spanFrom" "[I", Cond.fieldLink RX6 47 "DayBenchModel" "spanTo" "[I", Cond.methodLink RX6 155 Lib.Math.min.name, Cond.static Lib.Math.min.name, Cond.code Lib.Math.min.name Lib.Math.min.code 2 (some .int), Cond.fieldLink RX6 62 "DayBenchModel" "newFrom" "[I", Cond.fieldLink RX6 65 "DayBenchModel" "newTo" "[I", Cond.methodLink RX6 199 yX6_toFind, Cond.instanceMethod yX6_toFind, Cond.selects RX6 yX6_toFind yX6_toFind, Cond.code yX6_toFind cX6_toFind 4 none, Cond.methodLink RX6 222 yX6_canBe, Cond.instanceMethod yX6_canBe, Cond.selects RX6 yX6_canBe yX6_canBe, Cond.code yX6_canBe cX6_canBe 5 (some .boolean), Cond.fieldLink RX6 68 "DayBenchModel" "low" "[I", Cond.fieldLink RX6 71 "DayBenchModel" "high" "[I"]
def wsX6_settles_r4 : List Cond := [Cond.fieldLink RX6 31 "DayBenchModel" "sayC" "[I", Cond.fieldLink RX6 25 "DayBenchModel" "sayA" "[I", Cond.fieldLink RX6 28 "DayBenchModel" "sayB" "[I", Cond.methodLink RX6 206 yX6_narrows, Cond.instanceMethod yX6_narrows, Cond.selects RX6 yX6_narrows yX6_narrows, Cond.code yX6_narrows cX6_narrows 6 (some .boolean), Cond.methodLink RX6 225 yX6_widens, Cond.instanceMethod yX6_widens, Cond.selects RX6 yX6_widens yX6_widens, Cond.code yX6_widens cX6_widens 2 none]
def wsX6_settles : List Cond := .code yX6_settles cX6_settles 8 (some .int) :: ((wsX6_settles_r1 ++ (wsX6_settles_r2 ++ (wsX6_settles_r3 ++ wsX6_settles_r4))) ++ wsX60)
def wsX6_count : List Cond := .code yX6_count cX6_count 2 (some .int) :: ([.fieldLink RX6 98 "DayBenchModel" "thrown" "I", .fieldLink RX6 148 "DayBenchModel" "kings" "I", .fieldLink RX6 151 "DayBenchModel" "events" "I", .fieldLink RX6 158 "DayBenchModel" "sayings" "I", .fieldLink RX6 219 "DayBenchModel" "looks" "I"] ++ wsX60)
def wsJ9_max_7cf53 : List Cond := .code yJ9_max_7cf53 cJ9_max_7cf53 2 (some .int) :: ([])
def wsJ9_min_7cf53 : List Cond := .code yJ9_min_7cf53 cJ9_min_7cf53 2 (some .int) :: ([])
end
section
theorem dX0_isCalendar_0 : decode cX0_isCalendar 0 = .ok (.iload_n 0, 1) := by decide +kernel
theorem dX0_isCalendar_1 : decode cX0_isCalendar 1 = .ok (.ifCond .lt 12, 3) := by decide +kernel
theorem dX0_isCalendar_4 : decode cX0_isCalendar 4 = .ok (.iload_n 0, 1) := by decide +kernel
theorem dX0_isCalendar_5 : decode cX0_isCalendar 5 = .ok (.iconst 2, 1) := by decide +kernel
theorem dX0_isCalendar_6 : decode cX0_isCalendar 6 = .ok (.if_icmp .gt 7, 3) := by decide +kernel
theorem dX0_isCalendar_9 : decode cX0_isCalendar 9 = .ok (.iconst 1, 1) := by decide +kernel
theorem dX0_isCalendar_10 : decode cX0_isCalendar 10 = .ok (.goto 4, 3) := by decide +kernel
theorem dX0_isCalendar_13 : decode cX0_isCalendar 13 = .ok (.iconst 0, 1) := by decide +kernel
theorem dX0_isCalendar_14 : decode cX0_isCalendar 14 = .ok (.ireturn, 1) := by decide +kernel
set_option maxRecDepth 20000 in
theorem ggX0_isYear_X0_isCalendar : GoodIn wsX0_isYear wsX0_isCalendar := goodIn_r _ [4] (by decide +kernel) (by decide +kernel)
set_option maxRecDepth 20000 in
theorem gX0_isYear_X0_isCalendar : GoodIn wsX0_isYear (va_wsS RX0 11 yX0_isCalendar wsX0_isCalendar) := goodIn_app (goodIn_of _ (by decide +kernel)) ggX0_isYear_X0_isCalendar
theorem dX0_isYear_0 : decode cX0_isYear 0 = .ok (.iload_n 0, 1) := by decide +kernel
theorem dX0_isYear_1 : decode cX0_isYear 1 = .ok (.invokestatic 11, 3) := by decide +kernel
theorem dX0_isYear_4 : decode cX0_isYear 4 = .ok (.ifCond .eq 19, 3) := by decide +kernel
theorem dX0_isYear_7 : decode cX0_isYear 7 = .ok (.iload_n 1, 1) := by decide +kernel
theorem dX0_isYear_8 : decode cX0_isYear 8 = .ok (.iconst 1, 1) := by decide +kernel
theorem dX0_isYear_9 : decode cX0_isYear 9 = .ok (.if_icmp .lt 14, 3) := by decide +kernel
theorem dX0_isYear_12 : decode cX0_isYear 12 = .ok (.iload_n 1, 1) := by decide +kernel
theorem dX0_isYear_13 : decode cX0_isYear 13 = .ok (.sipush 2699, 3) := by decide +kernel
theorem dX0_isYear_16 : decode cX0_isYear 16 = .ok (.if_icmp .gt 7, 3) := by decide +kernel
theorem dX0_isYear_19 : decode cX0_isYear 19 = .ok (.iconst 1, 1) := by decide +kernel
theorem dX0_isYear_20 : decode cX0_isYear 20 = .ok (.goto 4, 3) := by decide +kernel
theorem dX0_isYear_23 : decode cX0_isYear 23 = .ok (.iconst 0, 1) := by decide +kernel
theorem dX0_isYear_24 : decode cX0_isYear 24 = .ok (.ireturn, 1) := by decide +kernel
set_option maxRecDepth 20000 in
theorem ggX0_isMonth_X0_isYear : GoodIn wsX0_isMonth wsX0_isYear := goodIn_r _ [4, 5, 6, 3, 7] (by decide +kernel) (by decide +kernel)
set_option maxRecDepth 20000 in
theorem gX0_isMonth_X0_isYear : GoodIn wsX0_isMonth (va_wsS RX0 15 yX0_isYear wsX0_isYear) := goodIn_app (goodIn_of _ (by decide +kernel)) ggX0_isMonth_X0_isYear
set_option maxRecDepth 20000 in
theorem ggX0_isMonth_X0_months : GoodIn wsX0_isMonth wsX0_months := goodIn_r _ [10] (by decide +kernel) (by decide +kernel)
set_option maxRecDepth 20000 in
theorem gX0_isMonth_X0_months : GoodIn wsX0_isMonth (va_wsS RX0 19 yX0_months wsX0_months) := goodIn_app (goodIn_of _ (by decide +kernel)) ggX0_isMonth_X0_months
theorem dX0_isMonth_0 : decode cX0_isMonth 0 = .ok (.iload_n 0, 1) := by decide +kernel
theorem dX0_isMonth_1 : decode cX0_isMonth 1 = .ok (.iload_n 1, 1) := by decide +kernel
theorem dX0_isMonth_2 : decode cX0_isMonth 2 = .ok (.invokestatic 15, 3) := by decide +kernel
theorem dX0_isMonth_5 : decode cX0_isMonth 5 = .ok (.ifCond .eq 20, 3) := by decide +kernel
theorem dX0_isMonth_8 : decode cX0_isMonth 8 = .ok (.iload_n 2, 1) := by decide +kernel
theorem dX0_isMonth_9 : decode cX0_isMonth 9 = .ok (.iconst 1, 1) := by decide +kernel
theorem dX0_isMonth_10 : decode cX0_isMonth 10 = .ok (.if_icmp .lt 15, 3) := by decide +kernel
theorem dX0_isMonth_13 : decode cX0_isMonth 13 = .ok (.iload_n 2, 1) := by decide +kernel
theorem dX0_isMonth_14 : decode cX0_isMonth 14 = .ok (.iload_n 0, 1) := by decide +kernel
theorem dX0_isMonth_15 : decode cX0_isMonth 15 = .ok (.invokestatic 19, 3) := by decide +kernel
theorem dX0_isMonth_18 : decode cX0_isMonth 18 = .ok (.if_icmp .gt 7, 3) := by decide +kernel
theorem dX0_isMonth_21 : decode cX0_isMonth 21 = .ok (.iconst 1, 1) := by decide +kernel
theorem dX0_isMonth_22 : decode cX0_isMonth 22 = .ok (.goto 4, 3) := by decide +kernel
theorem dX0_isMonth_25 : decode cX0_isMonth 25 = .ok (.iconst 0, 1) := by decide +kernel
theorem dX0_isMonth_26 : decode cX0_isMonth 26 = .ok (.ireturn, 1) := by decide +kernel
theorem dX0_months_0 : decode cX0_months 0 = .ok (.iload_n 0, 1) := by decide +kernel
theorem dX0_months_1 : decode cX0_months 1 = .ok (.iconst 2, 1) := by decide +kernel
theorem dX0_months_2 : decode cX0_months 2 = .ok (.if_icmp .ne 8, 3) := by decide +kernel
theorem dX0_months_5 : decode cX0_months 5 = .ok (.bipush 13, 2) := by decide +kernel
theorem dX0_months_7 : decode cX0_months 7 = .ok (.goto 5, 3) := by decide +kernel
theorem dX0_months_10 : decode cX0_months 10 = .ok (.bipush 12, 2) := by decide +kernel
theorem dX0_months_12 : decode cX0_months 12 = .ok (.ireturn, 1) := by decide +kernel
theorem dX0_isLeap_0 : decode cX0_isLeap 0 = .ok (.iload_n 0, 1) := by decide +kernel
theorem dX0_isLeap_1 : decode cX0_isLeap 1 = .ok (.iconst 2, 1) := by decide +kernel
theorem dX0_isLeap_2 : decode cX0_isLeap 2 = .ok (.if_icmp .eq 9, 3) := by decide +kernel
theorem dX0_isLeap_5 : decode cX0_isLeap 5 = .ok (.iload_n 1, 1) := by decide +kernel
theorem dX0_isLeap_6 : decode cX0_isLeap 6 = .ok (.iconst 4, 1) := by decide +kernel
theorem dX0_isLeap_7 : decode cX0_isLeap 7 = .ok (.irem, 1) := by decide +kernel
theorem dX0_isLeap_8 : decode cX0_isLeap 8 = .ok (.ifCond .eq 5, 3) := by decide +kernel
theorem dX0_isLeap_11 : decode cX0_isLeap 11 = .ok (.iconst 0, 1) := by decide +kernel
theorem dX0_isLeap_12 : decode cX0_isLeap 12 = .ok (.ireturn, 1) := by decide +kernel
theorem dX0_isLeap_13 : decode cX0_isLeap 13 = .ok (.iload_n 0, 1) := by decide +kernel
theorem dX0_isLeap_14 : decode cX0_isLeap 14 = .ok (.iconst 1, 1) := by decide +kernel
theorem dX0_isLeap_15 : decode cX0_isLeap 15 = .ok (.if_icmp .eq 18, 3) := by decide +kernel
theorem dX0_isLeap_18 : decode cX0_isLeap 18 = .ok (.iload_n 1, 1) := by decide +kernel
theorem dX0_isLeap_19 : decode cX0_isLeap 19 = .ok (.bipush 100, 2) := by decide +kernel
theorem dX0_isLeap_21 : decode cX0_isLeap 21 = .ok (.irem, 1) := by decide +kernel
theorem dX0_isLeap_22 : decode cX0_isLeap 22 = .ok (.ifCond .ne 11, 3) := by decide +kernel
theorem dX0_isLeap_25 : decode cX0_isLeap 25 = .ok (.iload_n 1, 1) := by decide +kernel
theorem dX0_isLeap_26 : decode cX0_isLeap 26 = .ok (.sipush 400, 3) := by decide +kernel
theorem dX0_isLeap_29 : decode cX0_isLeap 29 = .ok (.irem, 1) := by decide +kernel
theorem dX0_isLeap_30 : decode cX0_isLeap 30 = .ok (.ifCond .ne 7, 3) := by decide +kernel
theorem dX0_isLeap_33 : decode cX0_isLeap 33 = .ok (.iconst 1, 1) := by decide +kernel
theorem dX0_isLeap_34 : decode cX0_isLeap 34 = .ok (.goto 4, 3) := by decide +kernel
theorem dX0_isLeap_37 : decode cX0_isLeap 37 = .ok (.iconst 0, 1) := by decide +kernel
theorem dX0_isLeap_38 : decode cX0_isLeap 38 = .ok (.ireturn, 1) := by decide +kernel
set_option maxRecDepth 20000 in
theorem ggX0_monthDays_X0_isLeap : GoodIn wsX0_monthDays wsX0_isLeap := goodIn_r _ [5] (by decide +kernel) (by decide +kernel)
set_option maxRecDepth 20000 in
theorem gX0_monthDays_X0_isLeap : GoodIn wsX0_monthDays (va_wsS RX0 27 yX0_isLeap wsX0_isLeap) := goodIn_app (goodIn_of _ (by decide +kernel)) ggX0_monthDays_X0_isLeap
theorem dX0_monthDays_0 : decode cX0_monthDays 0 = .ok (.iload_n 0, 1) := by decide +kernel
theorem dX0_monthDays_1 : decode cX0_monthDays 1 = .ok (.iconst 2, 1) := by decide +kernel
theorem dX0_monthDays_2 : decode cX0_monthDays 2 = .ok (.if_icmp .ne 16, 3) := by decide +kernel
theorem dX0_monthDays_5 : decode cX0_monthDays 5 = .ok (.iload_n 2, 1) := by decide +kernel
theorem dX0_monthDays_6 : decode cX0_monthDays 6 = .ok (.bipush 13, 2) := by decide +kernel
theorem dX0_monthDays_8 : decode cX0_monthDays 8 = .ok (.if_icmp .ne 7, 3) := by decide +kernel
theorem dX0_monthDays_11 : decode cX0_monthDays 11 = .ok (.iconst 5, 1) := by decide +kernel
theorem dX0_monthDays_12 : decode cX0_monthDays 12 = .ok (.goto 5, 3) := by decide +kernel
theorem dX0_monthDays_15 : decode cX0_monthDays 15 = .ok (.bipush 30, 2) := by decide +kernel
theorem dX0_monthDays_17 : decode cX0_monthDays 17 = .ok (.ireturn, 1) := by decide +kernel
theorem dX0_monthDays_18 : decode cX0_monthDays 18 = .ok (.iload_n 2, 1) := by decide +kernel
theorem dX0_monthDays_19 : decode cX0_monthDays 19 = .ok (.iconst 1, 1) := by decide +kernel
theorem dX0_monthDays_20 : decode cX0_monthDays 20 = .ok (.if_icmp .lt 11, 3) := by decide +kernel
theorem dX0_monthDays_23 : decode cX0_monthDays 23 = .ok (.iload_n 2, 1) := by decide +kernel
theorem dX0_monthDays_24 : decode cX0_monthDays 24 = .ok (.getstatic 23, 3) := by decide +kernel
theorem dX0_monthDays_27 : decode cX0_monthDays 27 = .ok (.arraylength, 1) := by decide +kernel
theorem dX0_monthDays_28 : decode cX0_monthDays 28 = .ok (.if_icmp .le 5, 3) := by decide +kernel
theorem dX0_monthDays_31 : decode cX0_monthDays 31 = .ok (.iconst 0, 1) := by decide +kernel
theorem dX0_monthDays_32 : decode cX0_monthDays 32 = .ok (.ireturn, 1) := by decide +kernel
theorem dX0_monthDays_33 : decode cX0_monthDays 33 = .ok (.iload_n 2, 1) := by decide +kernel
theorem dX0_monthDays_34 : decode cX0_monthDays 34 = .ok (.iconst 2, 1) := by decide +kernel
theorem dX0_monthDays_35 : decode cX0_monthDays 35 = .ok (.if_icmp .ne 16, 3) := by decide +kernel
theorem dX0_monthDays_38 : decode cX0_monthDays 38 = .ok (.iload_n 0, 1) := by decide +kernel
theorem dX0_monthDays_39 : decode cX0_monthDays 39 = .ok (.iload_n 1, 1) := by decide +kernel
theorem dX0_monthDays_40 : decode cX0_monthDays 40 = .ok (.invokestatic 27, 3) := by decide +kernel
theorem dX0_monthDays_43 : decode cX0_monthDays 43 = .ok (.ifCond .eq 8, 3) := by decide +kernel
theorem dX0_monthDays_46 : decode cX0_monthDays 46 = .ok (.bipush 29, 2) := by decide +kernel
theorem dX0_monthDays_48 : decode cX0_monthDays 48 = .ok (.goto 10, 3) := by decide +kernel
theorem dX0_monthDays_51 : decode cX0_monthDays 51 = .ok (.getstatic 23, 3) := by decide +kernel
theorem dX0_monthDays_54 : decode cX0_monthDays 54 = .ok (.iload_n 2, 1) := by decide +kernel
theorem dX0_monthDays_55 : decode cX0_monthDays 55 = .ok (.iconst 1, 1) := by decide +kernel
theorem dX0_monthDays_56 : decode cX0_monthDays 56 = .ok (.isub, 1) := by decide +kernel
theorem dX0_monthDays_57 : decode cX0_monthDays 57 = .ok (.iaload, 1) := by decide +kernel
theorem dX0_monthDays_58 : decode cX0_monthDays 58 = .ok (.ireturn, 1) := by decide +kernel
theorem dX0_yearStart_0 : decode cX0_yearStart 0 = .ok (.iload_n 1, 1) := by decide +kernel
theorem dX0_yearStart_1 : decode cX0_yearStart 1 = .ok (.iconst 1, 1) := by decide +kernel
theorem dX0_yearStart_2 : decode cX0_yearStart 2 = .ok (.isub, 1) := by decide +kernel
theorem dX0_yearStart_3 : decode cX0_yearStart 3 = .ok (.istore_n 2, 1) := by decide +kernel
theorem dX0_yearStart_4 : decode cX0_yearStart 4 = .ok (.sipush 365, 3) := by decide +kernel
theorem dX0_yearStart_7 : decode cX0_yearStart 7 = .ok (.iload_n 2, 1) := by decide +kernel
theorem dX0_yearStart_8 : decode cX0_yearStart 8 = .ok (.imul, 1) := by decide +kernel
theorem dX0_yearStart_9 : decode cX0_yearStart 9 = .ok (.istore_n 3, 1) := by decide +kernel
theorem dX0_yearStart_10 : decode cX0_yearStart 10 = .ok (.iload_n 0, 1) := by decide +kernel
theorem dX0_yearStart_11 : decode cX0_yearStart 11 = .ok (.ifCond .ne 20, 3) := by decide +kernel
theorem dX0_yearStart_14 : decode cX0_yearStart 14 = .ok (.iload_n 3, 1) := by decide +kernel
theorem dX0_yearStart_15 : decode cX0_yearStart 15 = .ok (.iload_n 2, 1) := by decide +kernel
theorem dX0_yearStart_16 : decode cX0_yearStart 16 = .ok (.iconst 4, 1) := by decide +kernel
theorem dX0_yearStart_17 : decode cX0_yearStart 17 = .ok (.idiv, 1) := by decide +kernel
theorem dX0_yearStart_18 : decode cX0_yearStart 18 = .ok (.iadd, 1) := by decide +kernel
theorem dX0_yearStart_19 : decode cX0_yearStart 19 = .ok (.iload_n 2, 1) := by decide +kernel
theorem dX0_yearStart_20 : decode cX0_yearStart 20 = .ok (.bipush 100, 2) := by decide +kernel
theorem dX0_yearStart_22 : decode cX0_yearStart 22 = .ok (.idiv, 1) := by decide +kernel
theorem dX0_yearStart_23 : decode cX0_yearStart 23 = .ok (.isub, 1) := by decide +kernel
theorem dX0_yearStart_24 : decode cX0_yearStart 24 = .ok (.iload_n 2, 1) := by decide +kernel
theorem dX0_yearStart_25 : decode cX0_yearStart 25 = .ok (.sipush 400, 3) := by decide +kernel
theorem dX0_yearStart_28 : decode cX0_yearStart 28 = .ok (.idiv, 1) := by decide +kernel
theorem dX0_yearStart_29 : decode cX0_yearStart 29 = .ok (.iadd, 1) := by decide +kernel
theorem dX0_yearStart_30 : decode cX0_yearStart 30 = .ok (.ireturn, 1) := by decide +kernel
theorem dX0_yearStart_31 : decode cX0_yearStart 31 = .ok (.iload_n 0, 1) := by decide +kernel
theorem dX0_yearStart_32 : decode cX0_yearStart 32 = .ok (.iconst 1, 1) := by decide +kernel
theorem dX0_yearStart_33 : decode cX0_yearStart 33 = .ok (.if_icmp .ne 13, 3) := by decide +kernel
theorem dX0_yearStart_36 : decode cX0_yearStart 36 = .ok (.iload_n 3, 1) := by decide +kernel
theorem dX0_yearStart_37 : decode cX0_yearStart 37 = .ok (.iload_n 2, 1) := by decide +kernel
theorem dX0_yearStart_38 : decode cX0_yearStart 38 = .ok (.iconst 4, 1) := by decide +kernel
theorem dX0_yearStart_39 : decode cX0_yearStart 39 = .ok (.idiv, 1) := by decide +kernel
theorem dX0_yearStart_40 : decode cX0_yearStart 40 = .ok (.iadd, 1) := by decide +kernel
theorem dX0_yearStart_41 : decode cX0_yearStart 41 = .ok (.iconst 2, 1) := by decide +kernel
theorem dX0_yearStart_42 : decode cX0_yearStart 42 = .ok (.isub, 1) := by decide +kernel
theorem dX0_yearStart_43 : decode cX0_yearStart 43 = .ok (.goto 4, 3) := by decide +kernel
theorem dX0_yearStart_46 : decode cX0_yearStart 46 = .ok (.iload_n 3, 1) := by decide +kernel
theorem dX0_yearStart_47 : decode cX0_yearStart 47 = .ok (.ireturn, 1) := by decide +kernel
set_option maxRecDepth 20000 in
theorem ggX0_monthStart_X0_yearStart : GoodIn wsX0_monthStart wsX0_yearStart := goodIn_r _ [4] (by decide +kernel) (by decide +kernel)
set_option maxRecDepth 20000 in
theorem gX0_monthStart_X0_yearStart : GoodIn wsX0_monthStart (va_wsS RX0 30 yX0_yearStart wsX0_yearStart) := goodIn_app (goodIn_of _ (by decide +kernel)) ggX0_monthStart_X0_yearStart
set_option maxRecDepth 20000 in
theorem ggX0_monthStart_X0_monthDays : GoodIn wsX0_monthStart wsX0_monthDays := goodIn_r _ [7, 8, 9, 10, 3, 11] (by decide +kernel) (by decide +kernel)
set_option maxRecDepth 20000 in
theorem gX0_monthStart_X0_monthDays : GoodIn wsX0_monthStart (va_wsS RX0 34 yX0_monthDays wsX0_monthDays) := goodIn_app (goodIn_of _ (by decide +kernel)) ggX0_monthStart_X0_monthDays
theorem dX0_monthStart_0 : decode cX0_monthStart 0 = .ok (.iload_n 0, 1) := by decide +kernel
theorem dX0_monthStart_1 : decode cX0_monthStart 1 = .ok (.iload_n 1, 1) := by decide +kernel
theorem dX0_monthStart_2 : decode cX0_monthStart 2 = .ok (.invokestatic 30, 3) := by decide +kernel
theorem dX0_monthStart_5 : decode cX0_monthStart 5 = .ok (.istore_n 3, 1) := by decide +kernel
theorem dX0_monthStart_6 : decode cX0_monthStart 6 = .ok (.iconst 1, 1) := by decide +kernel
theorem dX0_monthStart_7 : decode cX0_monthStart 7 = .ok (.istore 4, 2) := by decide +kernel
theorem dX0_monthStart_9 : decode cX0_monthStart 9 = .ok (.iload 4, 2) := by decide +kernel
theorem dX0_monthStart_11 : decode cX0_monthStart 11 = .ok (.iload_n 2, 1) := by decide +kernel
theorem dX0_monthStart_12 : decode cX0_monthStart 12 = .ok (.if_icmp .ge 19, 3) := by decide +kernel
theorem dX0_monthStart_15 : decode cX0_monthStart 15 = .ok (.iload_n 3, 1) := by decide +kernel
theorem dX0_monthStart_16 : decode cX0_monthStart 16 = .ok (.iload_n 0, 1) := by decide +kernel
theorem dX0_monthStart_17 : decode cX0_monthStart 17 = .ok (.iload_n 1, 1) := by decide +kernel
theorem dX0_monthStart_18 : decode cX0_monthStart 18 = .ok (.iload 4, 2) := by decide +kernel
theorem dX0_monthStart_20 : decode cX0_monthStart 20 = .ok (.invokestatic 34, 3) := by decide +kernel
theorem dX0_monthStart_23 : decode cX0_monthStart 23 = .ok (.iadd, 1) := by decide +kernel
theorem dX0_monthStart_24 : decode cX0_monthStart 24 = .ok (.istore_n 3, 1) := by decide +kernel
theorem dX0_monthStart_25 : decode cX0_monthStart 25 = .ok (.iinc 4 1, 3) := by decide +kernel
theorem dX0_monthStart_28 : decode cX0_monthStart 28 = .ok (.goto (-19), 3) := by decide +kernel
theorem dX0_monthStart_31 : decode cX0_monthStart 31 = .ok (.iload_n 3, 1) := by decide +kernel
theorem dX0_monthStart_32 : decode cX0_monthStart 32 = .ok (.ireturn, 1) := by decide +kernel
set_option maxRecDepth 20000 in
theorem ggX0_dayOf_X0_isMonth : GoodIn wsX0_dayOf wsX0_isMonth := goodIn_r _ [4, 5, 6, 3, 7, 8, 9, 10, 11, 12, 13] (by decide +kernel) (by decide +kernel)
set_option maxRecDepth 20000 in
theorem gX0_dayOf_X0_isMonth : GoodIn wsX0_dayOf (va_wsS RX0 38 yX0_isMonth wsX0_isMonth) := goodIn_app (goodIn_of _ (by decide +kernel)) ggX0_dayOf_X0_isMonth
set_option maxRecDepth 20000 in
theorem ggX0_dayOf_X0_monthDays : GoodIn wsX0_dayOf wsX0_monthDays := goodIn_r _ [16, 17, 18, 19, 3, 20] (by decide +kernel) (by decide +kernel)
set_option maxRecDepth 20000 in
theorem gX0_dayOf_X0_monthDays : GoodIn wsX0_dayOf (va_wsS RX0 34 yX0_monthDays wsX0_monthDays) := goodIn_app (goodIn_of _ (by decide +kernel)) ggX0_dayOf_X0_monthDays
set_option maxRecDepth 20000 in
theorem ggX0_dayOf_X0_monthStart : GoodIn wsX0_dayOf wsX0_monthStart := goodIn_r _ [23, 24, 25, 3, 26, 14, 15, 16, 17, 18, 19, 20] (by decide +kernel) (by decide +kernel)
set_option maxRecDepth 20000 in
theorem gX0_dayOf_X0_monthStart : GoodIn wsX0_dayOf (va_wsS RX0 42 yX0_monthStart wsX0_monthStart) := goodIn_app (goodIn_of _ (by decide +kernel)) ggX0_dayOf_X0_monthStart
set_option maxRecDepth 20000 in
theorem ggX0_dayOf_X5_isDay : GoodIn wsX0_dayOf wsX5_isDay := goodIn_r _ [29, 30] (by decide +kernel) (by decide +kernel)
set_option maxRecDepth 20000 in
theorem gX0_dayOf_X5_isDay_n45 : GoodIn wsX0_dayOf (wsX5_isDay) := ggX0_dayOf_X5_isDay
theorem dX0_dayOf_0 : decode cX0_dayOf 0 = .ok (.iload_n 0, 1) := by decide +kernel
theorem dX0_dayOf_1 : decode cX0_dayOf 1 = .ok (.iload_n 1, 1) := by decide +kernel
theorem dX0_dayOf_2 : decode cX0_dayOf 2 = .ok (.iload_n 2, 1) := by decide +kernel
theorem dX0_dayOf_3 : decode cX0_dayOf 3 = .ok (.invokestatic 38, 3) := by decide +kernel
theorem dX0_dayOf_6 : decode cX0_dayOf 6 = .ok (.ifCond .eq 18, 3) := by decide +kernel
theorem dX0_dayOf_9 : decode cX0_dayOf 9 = .ok (.iload_n 3, 1) := by decide +kernel
theorem dX0_dayOf_10 : decode cX0_dayOf 10 = .ok (.iconst 1, 1) := by decide +kernel
theorem dX0_dayOf_11 : decode cX0_dayOf 11 = .ok (.if_icmp .lt 13, 3) := by decide +kernel
theorem dX0_dayOf_14 : decode cX0_dayOf 14 = .ok (.iload_n 3, 1) := by decide +kernel
theorem dX0_dayOf_15 : decode cX0_dayOf 15 = .ok (.iload_n 0, 1) := by decide +kernel
theorem dX0_dayOf_16 : decode cX0_dayOf 16 = .ok (.iload_n 1, 1) := by decide +kernel
theorem dX0_dayOf_17 : decode cX0_dayOf 17 = .ok (.iload_n 2, 1) := by decide +kernel
theorem dX0_dayOf_18 : decode cX0_dayOf 18 = .ok (.invokestatic 34, 3) := by decide +kernel
theorem dX0_dayOf_21 : decode cX0_dayOf 21 = .ok (.if_icmp .le 5, 3) := by decide +kernel
theorem dX0_dayOf_24 : decode cX0_dayOf 24 = .ok (.iconst (-1), 1) := by decide +kernel
theorem dX0_dayOf_25 : decode cX0_dayOf 25 = .ok (.ireturn, 1) := by decide +kernel
theorem dX0_dayOf_26 : decode cX0_dayOf 26 = .ok (.iload_n 0, 1) := by decide +kernel
theorem dX0_dayOf_27 : decode cX0_dayOf 27 = .ok (.iload_n 1, 1) := by decide +kernel
theorem dX0_dayOf_28 : decode cX0_dayOf 28 = .ok (.iload_n 2, 1) := by decide +kernel
theorem dX0_dayOf_29 : decode cX0_dayOf 29 = .ok (.invokestatic 42, 3) := by decide +kernel
theorem dX0_dayOf_32 : decode cX0_dayOf 32 = .ok (.iload_n 3, 1) := by decide +kernel
theorem dX0_dayOf_33 : decode cX0_dayOf 33 = .ok (.iadd, 1) := by decide +kernel
theorem dX0_dayOf_34 : decode cX0_dayOf 34 = .ok (.iconst 1, 1) := by decide +kernel
theorem dX0_dayOf_35 : decode cX0_dayOf 35 = .ok (.isub, 1) := by decide +kernel
theorem dX0_dayOf_36 : decode cX0_dayOf 36 = .ok (.istore 4, 2) := by decide +kernel
theorem dX0_dayOf_38 : decode cX0_dayOf 38 = .ok (.iload 4, 2) := by decide +kernel
theorem dX0_dayOf_40 : decode cX0_dayOf 40 = .ok (.invokestatic 45, 3) := by decide +kernel
theorem dX0_dayOf_43 : decode cX0_dayOf 43 = .ok (.ifCond .eq 8, 3) := by decide +kernel
theorem dX0_dayOf_46 : decode cX0_dayOf 46 = .ok (.iload 4, 2) := by decide +kernel
theorem dX0_dayOf_48 : decode cX0_dayOf 48 = .ok (.goto 4, 3) := by decide +kernel
theorem dX0_dayOf_51 : decode cX0_dayOf 51 = .ok (.iconst (-1), 1) := by decide +kernel
theorem dX0_dayOf_52 : decode cX0_dayOf 52 = .ok (.ireturn, 1) := by decide +kernel
set_option maxRecDepth 20000 in
theorem ggX0_yearOf_X0_yearStart : GoodIn wsX0_yearOf wsX0_yearStart := goodIn_r _ [4] (by decide +kernel) (by decide +kernel)
set_option maxRecDepth 20000 in
theorem gX0_yearOf_X0_yearStart : GoodIn wsX0_yearOf (va_wsS RX0 30 yX0_yearStart wsX0_yearStart) := goodIn_app (goodIn_of _ (by decide +kernel)) ggX0_yearOf_X0_yearStart
theorem dX0_yearOf_0 : decode cX0_yearOf 0 = .ok (.iload_n 1, 1) := by decide +kernel
theorem dX0_yearOf_1 : decode cX0_yearOf 1 = .ok (.sipush 366, 3) := by decide +kernel
theorem dX0_yearOf_4 : decode cX0_yearOf 4 = .ok (.idiv, 1) := by decide +kernel
theorem dX0_yearOf_5 : decode cX0_yearOf 5 = .ok (.iconst 1, 1) := by decide +kernel
theorem dX0_yearOf_6 : decode cX0_yearOf 6 = .ok (.iadd, 1) := by decide +kernel
theorem dX0_yearOf_7 : decode cX0_yearOf 7 = .ok (.istore_n 2, 1) := by decide +kernel
theorem dX0_yearOf_8 : decode cX0_yearOf 8 = .ok (.iload_n 2, 1) := by decide +kernel
theorem dX0_yearOf_9 : decode cX0_yearOf 9 = .ok (.sipush 2699, 3) := by decide +kernel
theorem dX0_yearOf_12 : decode cX0_yearOf 12 = .ok (.if_icmp .gt 20, 3) := by decide +kernel
theorem dX0_yearOf_15 : decode cX0_yearOf 15 = .ok (.iload_n 0, 1) := by decide +kernel
theorem dX0_yearOf_16 : decode cX0_yearOf 16 = .ok (.iload_n 2, 1) := by decide +kernel
theorem dX0_yearOf_17 : decode cX0_yearOf 17 = .ok (.iconst 1, 1) := by decide +kernel
theorem dX0_yearOf_18 : decode cX0_yearOf 18 = .ok (.iadd, 1) := by decide +kernel
theorem dX0_yearOf_19 : decode cX0_yearOf 19 = .ok (.invokestatic 30, 3) := by decide +kernel
theorem dX0_yearOf_22 : decode cX0_yearOf 22 = .ok (.iload_n 1, 1) := by decide +kernel
theorem dX0_yearOf_23 : decode cX0_yearOf 23 = .ok (.if_icmp .gt 9, 3) := by decide +kernel
theorem dX0_yearOf_26 : decode cX0_yearOf 26 = .ok (.iinc 2 1, 3) := by decide +kernel
theorem dX0_yearOf_29 : decode cX0_yearOf 29 = .ok (.goto (-21), 3) := by decide +kernel
theorem dX0_yearOf_32 : decode cX0_yearOf 32 = .ok (.iload_n 2, 1) := by decide +kernel
theorem dX0_yearOf_33 : decode cX0_yearOf 33 = .ok (.sipush 2699, 3) := by decide +kernel
theorem dX0_yearOf_36 : decode cX0_yearOf 36 = .ok (.if_icmp .gt 7, 3) := by decide +kernel
theorem dX0_yearOf_39 : decode cX0_yearOf 39 = .ok (.iload_n 2, 1) := by decide +kernel
theorem dX0_yearOf_40 : decode cX0_yearOf 40 = .ok (.goto 4, 3) := by decide +kernel
theorem dX0_yearOf_43 : decode cX0_yearOf 43 = .ok (.iconst (-1), 1) := by decide +kernel
theorem dX0_yearOf_44 : decode cX0_yearOf 44 = .ok (.ireturn, 1) := by decide +kernel
set_option maxRecDepth 20000 in
theorem ggX0_partOf_X0_isCalendar : GoodIn wsX0_partOf wsX0_isCalendar := goodIn_r _ [4] (by decide +kernel) (by decide +kernel)
set_option maxRecDepth 20000 in
theorem gX0_partOf_X0_isCalendar : GoodIn wsX0_partOf (va_wsS RX0 11 yX0_isCalendar wsX0_isCalendar) := goodIn_app (goodIn_of _ (by decide +kernel)) ggX0_partOf_X0_isCalendar
set_option maxRecDepth 20000 in
theorem ggX0_partOf_X5_isDay : GoodIn wsX0_partOf wsX5_isDay := goodIn_r _ [7, 8] (by decide +kernel) (by decide +kernel)
set_option maxRecDepth 20000 in
theorem gX0_partOf_X5_isDay_n45 : GoodIn wsX0_partOf (wsX5_isDay) := ggX0_partOf_X5_isDay
set_option maxRecDepth 20000 in
theorem ggX0_partOf_X0_yearOf : GoodIn wsX0_partOf wsX0_yearOf := goodIn_r _ [11, 12, 13, 3, 14] (by decide +kernel) (by decide +kernel)
set_option maxRecDepth 20000 in
theorem gX0_partOf_X0_yearOf : GoodIn wsX0_partOf (va_wsS RX0 48 yX0_yearOf wsX0_yearOf) := goodIn_app (goodIn_of _ (by decide +kernel)) ggX0_partOf_X0_yearOf
set_option maxRecDepth 20000 in
theorem ggX0_partOf_X0_yearStart : GoodIn wsX0_partOf wsX0_yearStart := goodIn_r _ [14] (by decide +kernel) (by decide +kernel)
set_option maxRecDepth 20000 in
theorem gX0_partOf_X0_yearStart : GoodIn wsX0_partOf (va_wsS RX0 30 yX0_yearStart wsX0_yearStart) := goodIn_app (goodIn_of _ (by decide +kernel)) ggX0_partOf_X0_yearStart
set_option maxRecDepth 20000 in
theorem ggX0_partOf_X0_months : GoodIn wsX0_partOf wsX0_months := goodIn_r _ [17] (by decide +kernel) (by decide +kernel)
set_option maxRecDepth 20000 in
theorem gX0_partOf_X0_months : GoodIn wsX0_partOf (va_wsS RX0 19 yX0_months wsX0_months) := goodIn_app (goodIn_of _ (by decide +kernel)) ggX0_partOf_X0_months
set_option maxRecDepth 20000 in
theorem ggX0_partOf_X0_monthDays : GoodIn wsX0_partOf wsX0_monthDays := goodIn_r _ [20, 21, 22, 23, 3, 24] (by decide +kernel) (by decide +kernel)
set_option maxRecDepth 20000 in
theorem gX0_partOf_X0_monthDays : GoodIn wsX0_partOf (va_wsS RX0 34 yX0_monthDays wsX0_monthDays) := goodIn_app (goodIn_of _ (by decide +kernel)) ggX0_partOf_X0_monthDays
theorem dX0_partOf_0 : decode cX0_partOf 0 = .ok (.iload_n 0, 1) := by decide +kernel
theorem dX0_partOf_1 : decode cX0_partOf 1 = .ok (.invokestatic 11, 3) := by decide +kernel
theorem dX0_partOf_4 : decode cX0_partOf 4 = .ok (.ifCond .eq 19, 3) := by decide +kernel
theorem dX0_partOf_7 : decode cX0_partOf 7 = .ok (.iload_n 1, 1) := by decide +kernel
theorem dX0_partOf_8 : decode cX0_partOf 8 = .ok (.invokestatic 45, 3) := by decide +kernel
theorem dX0_partOf_11 : decode cX0_partOf 11 = .ok (.ifCond .eq 12, 3) := by decide +kernel
theorem dX0_partOf_14 : decode cX0_partOf 14 = .ok (.iload_n 2, 1) := by decide +kernel
theorem dX0_partOf_15 : decode cX0_partOf 15 = .ok (.ifCond .lt 8, 3) := by decide +kernel
theorem dX0_partOf_18 : decode cX0_partOf 18 = .ok (.iload_n 2, 1) := by decide +kernel
theorem dX0_partOf_19 : decode cX0_partOf 19 = .ok (.iconst 2, 1) := by decide +kernel
theorem dX0_partOf_20 : decode cX0_partOf 20 = .ok (.if_icmp .le 5, 3) := by decide +kernel
theorem dX0_partOf_23 : decode cX0_partOf 23 = .ok (.iconst (-1), 1) := by decide +kernel
theorem dX0_partOf_24 : decode cX0_partOf 24 = .ok (.ireturn, 1) := by decide +kernel
theorem dX0_partOf_25 : decode cX0_partOf 25 = .ok (.iload_n 0, 1) := by decide +kernel
theorem dX0_partOf_26 : decode cX0_partOf 26 = .ok (.iload_n 1, 1) := by decide +kernel
theorem dX0_partOf_27 : decode cX0_partOf 27 = .ok (.invokestatic 48, 3) := by decide +kernel
theorem dX0_partOf_30 : decode cX0_partOf 30 = .ok (.istore_n 3, 1) := by decide +kernel
theorem dX0_partOf_31 : decode cX0_partOf 31 = .ok (.iload_n 2, 1) := by decide +kernel
theorem dX0_partOf_32 : decode cX0_partOf 32 = .ok (.ifCond .eq 8, 3) := by decide +kernel
theorem dX0_partOf_35 : decode cX0_partOf 35 = .ok (.iload_n 3, 1) := by decide +kernel
theorem dX0_partOf_36 : decode cX0_partOf 36 = .ok (.iconst (-1), 1) := by decide +kernel
theorem dX0_partOf_37 : decode cX0_partOf 37 = .ok (.if_icmp .ne 5, 3) := by decide +kernel
theorem dX0_partOf_40 : decode cX0_partOf 40 = .ok (.iload_n 3, 1) := by decide +kernel
theorem dX0_partOf_41 : decode cX0_partOf 41 = .ok (.ireturn, 1) := by decide +kernel
theorem dX0_partOf_42 : decode cX0_partOf 42 = .ok (.iload_n 1, 1) := by decide +kernel
theorem dX0_partOf_43 : decode cX0_partOf 43 = .ok (.iload_n 0, 1) := by decide +kernel
theorem dX0_partOf_44 : decode cX0_partOf 44 = .ok (.iload_n 3, 1) := by decide +kernel
theorem dX0_partOf_45 : decode cX0_partOf 45 = .ok (.invokestatic 30, 3) := by decide +kernel
theorem dX0_partOf_48 : decode cX0_partOf 48 = .ok (.isub, 1) := by decide +kernel
theorem dX0_partOf_49 : decode cX0_partOf 49 = .ok (.istore 4, 2) := by decide +kernel
theorem dX0_partOf_51 : decode cX0_partOf 51 = .ok (.iconst 1, 1) := by decide +kernel
theorem dX0_partOf_52 : decode cX0_partOf 52 = .ok (.istore 5, 2) := by decide +kernel
theorem dX0_partOf_54 : decode cX0_partOf 54 = .ok (.iload 5, 2) := by decide +kernel
theorem dX0_partOf_56 : decode cX0_partOf 56 = .ok (.iload_n 0, 1) := by decide +kernel
theorem dX0_partOf_57 : decode cX0_partOf 57 = .ok (.invokestatic 19, 3) := by decide +kernel
theorem dX0_partOf_60 : decode cX0_partOf 60 = .ok (.if_icmp .ge 33, 3) := by decide +kernel
theorem dX0_partOf_63 : decode cX0_partOf 63 = .ok (.iload 4, 2) := by decide +kernel
theorem dX0_partOf_65 : decode cX0_partOf 65 = .ok (.iload_n 0, 1) := by decide +kernel
theorem dX0_partOf_66 : decode cX0_partOf 66 = .ok (.iload_n 3, 1) := by decide +kernel
theorem dX0_partOf_67 : decode cX0_partOf 67 = .ok (.iload 5, 2) := by decide +kernel
theorem dX0_partOf_69 : decode cX0_partOf 69 = .ok (.invokestatic 34, 3) := by decide +kernel
theorem dX0_partOf_72 : decode cX0_partOf 72 = .ok (.if_icmp .lt 21, 3) := by decide +kernel
theorem dX0_partOf_75 : decode cX0_partOf 75 = .ok (.iload 4, 2) := by decide +kernel
theorem dX0_partOf_77 : decode cX0_partOf 77 = .ok (.iload_n 0, 1) := by decide +kernel
theorem dX0_partOf_78 : decode cX0_partOf 78 = .ok (.iload_n 3, 1) := by decide +kernel
theorem dX0_partOf_79 : decode cX0_partOf 79 = .ok (.iload 5, 2) := by decide +kernel
theorem dX0_partOf_81 : decode cX0_partOf 81 = .ok (.invokestatic 34, 3) := by decide +kernel
theorem dX0_partOf_84 : decode cX0_partOf 84 = .ok (.isub, 1) := by decide +kernel
theorem dX0_partOf_85 : decode cX0_partOf 85 = .ok (.istore 4, 2) := by decide +kernel
theorem dX0_partOf_87 : decode cX0_partOf 87 = .ok (.iinc 5 1, 3) := by decide +kernel
theorem dX0_partOf_90 : decode cX0_partOf 90 = .ok (.goto (-36), 3) := by decide +kernel
theorem dX0_partOf_93 : decode cX0_partOf 93 = .ok (.iload_n 2, 1) := by decide +kernel
theorem dX0_partOf_94 : decode cX0_partOf 94 = .ok (.iconst 1, 1) := by decide +kernel
theorem dX0_partOf_95 : decode cX0_partOf 95 = .ok (.if_icmp .ne 8, 3) := by decide +kernel
theorem dX0_partOf_98 : decode cX0_partOf 98 = .ok (.iload 5, 2) := by decide +kernel
theorem dX0_partOf_100 : decode cX0_partOf 100 = .ok (.goto 7, 3) := by decide +kernel
theorem dX0_partOf_103 : decode cX0_partOf 103 = .ok (.iload 4, 2) := by decide +kernel
theorem dX0_partOf_105 : decode cX0_partOf 105 = .ok (.iconst 1, 1) := by decide +kernel
theorem dX0_partOf_106 : decode cX0_partOf 106 = .ok (.iadd, 1) := by decide +kernel
theorem dX0_partOf_107 : decode cX0_partOf 107 = .ok (.ireturn, 1) := by decide +kernel
set_option maxRecDepth 20000 in
theorem ggX0_yearsBehind_X0_partOf : GoodIn wsX0_yearsBehind wsX0_partOf := goodIn_r _ [4, 5, 6, 3, 7, 8, 9, 10, 11, 12, 13, 14, 15, 16, 17, 18, 19, 20, 21, 22, 23, 24, 25, 26, 27] (by decide +kernel) (by decide +kernel)
set_option maxRecDepth 20000 in
theorem gX0_yearsBehind_X0_partOf : GoodIn wsX0_yearsBehind (va_wsS RX0 51 yX0_partOf wsX0_partOf) := goodIn_app (goodIn_of _ (by decide +kernel)) ggX0_yearsBehind_X0_partOf
set_option maxRecDepth 20000 in
theorem ggX0_yearsBehind_X0_monthDays : GoodIn wsX0_yearsBehind wsX0_monthDays := goodIn_r _ [23, 24, 25, 26, 3, 27] (by decide +kernel) (by decide +kernel)
set_option maxRecDepth 20000 in
theorem gX0_yearsBehind_X0_monthDays : GoodIn wsX0_yearsBehind (va_wsS RX0 34 yX0_monthDays wsX0_monthDays) := goodIn_app (goodIn_of _ (by decide +kernel)) ggX0_yearsBehind_X0_monthDays
set_option maxRecDepth 20000 in
theorem ggX0_yearsBehind_X0_dayOf : GoodIn wsX0_yearsBehind wsX0_dayOf := goodIn_r _ [30, 31, 32, 3, 33, 34, 35, 36, 5, 6, 7, 18, 19, 20, 21, 22, 23, 24, 25, 26, 27, 37, 38, 39, 15, 16, 17, 8, 9, 10, 11] (by decide +kernel) (by decide +kernel)
set_option maxRecDepth 20000 in
theorem gX0_yearsBehind_X0_dayOf : GoodIn wsX0_yearsBehind (va_wsS RX0 54 yX0_dayOf wsX0_dayOf) := goodIn_app (goodIn_of _ (by decide +kernel)) ggX0_yearsBehind_X0_dayOf
theorem dX0_yearsBehind_0 : decode cX0_yearsBehind 0 = .ok (.iload_n 0, 1) := by decide +kernel
theorem dX0_yearsBehind_1 : decode cX0_yearsBehind 1 = .ok (.iload_n 1, 1) := by decide +kernel
theorem dX0_yearsBehind_2 : decode cX0_yearsBehind 2 = .ok (.iconst 0, 1) := by decide +kernel
theorem dX0_yearsBehind_3 : decode cX0_yearsBehind 3 = .ok (.invokestatic 51, 3) := by decide +kernel
theorem dX0_yearsBehind_6 : decode cX0_yearsBehind 6 = .ok (.istore_n 3, 1) := by decide +kernel
theorem dX0_yearsBehind_7 : decode cX0_yearsBehind 7 = .ok (.iload_n 3, 1) := by decide +kernel
theorem dX0_yearsBehind_8 : decode cX0_yearsBehind 8 = .ok (.iconst (-1), 1) := by decide +kernel
theorem dX0_yearsBehind_9 : decode cX0_yearsBehind 9 = .ok (.if_icmp .eq 13, 3) := by decide +kernel
theorem dX0_yearsBehind_12 : decode cX0_yearsBehind 12 = .ok (.iload_n 2, 1) := by decide +kernel
theorem dX0_yearsBehind_13 : decode cX0_yearsBehind 13 = .ok (.ifCond .lt 9, 3) := by decide +kernel
theorem dX0_yearsBehind_16 : decode cX0_yearsBehind 16 = .ok (.iload_n 2, 1) := by decide +kernel
theorem dX0_yearsBehind_17 : decode cX0_yearsBehind 17 = .ok (.bipush 100, 2) := by decide +kernel
theorem dX0_yearsBehind_19 : decode cX0_yearsBehind 19 = .ok (.if_icmp .le 5, 3) := by decide +kernel
theorem dX0_yearsBehind_22 : decode cX0_yearsBehind 22 = .ok (.iconst (-1), 1) := by decide +kernel
theorem dX0_yearsBehind_23 : decode cX0_yearsBehind 23 = .ok (.ireturn, 1) := by decide +kernel
theorem dX0_yearsBehind_24 : decode cX0_yearsBehind 24 = .ok (.iload_n 0, 1) := by decide +kernel
theorem dX0_yearsBehind_25 : decode cX0_yearsBehind 25 = .ok (.iload_n 1, 1) := by decide +kernel
theorem dX0_yearsBehind_26 : decode cX0_yearsBehind 26 = .ok (.iconst 1, 1) := by decide +kernel
theorem dX0_yearsBehind_27 : decode cX0_yearsBehind 27 = .ok (.invokestatic 51, 3) := by decide +kernel
theorem dX0_yearsBehind_30 : decode cX0_yearsBehind 30 = .ok (.istore 4, 2) := by decide +kernel
theorem dX0_yearsBehind_32 : decode cX0_yearsBehind 32 = .ok (.iload_n 0, 1) := by decide +kernel
theorem dX0_yearsBehind_33 : decode cX0_yearsBehind 33 = .ok (.iload_n 1, 1) := by decide +kernel
theorem dX0_yearsBehind_34 : decode cX0_yearsBehind 34 = .ok (.iconst 2, 1) := by decide +kernel
theorem dX0_yearsBehind_35 : decode cX0_yearsBehind 35 = .ok (.invokestatic 51, 3) := by decide +kernel
theorem dX0_yearsBehind_38 : decode cX0_yearsBehind 38 = .ok (.istore 5, 2) := by decide +kernel
theorem dX0_yearsBehind_40 : decode cX0_yearsBehind 40 = .ok (.iload 4, 2) := by decide +kernel
theorem dX0_yearsBehind_42 : decode cX0_yearsBehind 42 = .ok (.iconst 2, 1) := by decide +kernel
theorem dX0_yearsBehind_43 : decode cX0_yearsBehind 43 = .ok (.if_icmp .ne 27, 3) := by decide +kernel
theorem dX0_yearsBehind_46 : decode cX0_yearsBehind 46 = .ok (.iload 5, 2) := by decide +kernel
theorem dX0_yearsBehind_48 : decode cX0_yearsBehind 48 = .ok (.iload_n 0, 1) := by decide +kernel
theorem dX0_yearsBehind_49 : decode cX0_yearsBehind 49 = .ok (.iload_n 3, 1) := by decide +kernel
theorem dX0_yearsBehind_50 : decode cX0_yearsBehind 50 = .ok (.iload_n 2, 1) := by decide +kernel
theorem dX0_yearsBehind_51 : decode cX0_yearsBehind 51 = .ok (.iadd, 1) := by decide +kernel
theorem dX0_yearsBehind_52 : decode cX0_yearsBehind 52 = .ok (.iload 4, 2) := by decide +kernel
theorem dX0_yearsBehind_54 : decode cX0_yearsBehind 54 = .ok (.invokestatic 34, 3) := by decide +kernel
theorem dX0_yearsBehind_57 : decode cX0_yearsBehind 57 = .ok (.if_icmp .le 13, 3) := by decide +kernel
theorem dX0_yearsBehind_60 : decode cX0_yearsBehind 60 = .ok (.iload_n 0, 1) := by decide +kernel
theorem dX0_yearsBehind_61 : decode cX0_yearsBehind 61 = .ok (.iload_n 3, 1) := by decide +kernel
theorem dX0_yearsBehind_62 : decode cX0_yearsBehind 62 = .ok (.iload_n 2, 1) := by decide +kernel
theorem dX0_yearsBehind_63 : decode cX0_yearsBehind 63 = .ok (.iadd, 1) := by decide +kernel
theorem dX0_yearsBehind_64 : decode cX0_yearsBehind 64 = .ok (.iconst 3, 1) := by decide +kernel
theorem dX0_yearsBehind_65 : decode cX0_yearsBehind 65 = .ok (.iconst 1, 1) := by decide +kernel
theorem dX0_yearsBehind_66 : decode cX0_yearsBehind 66 = .ok (.invokestatic 54, 3) := by decide +kernel
theorem dX0_yearsBehind_69 : decode cX0_yearsBehind 69 = .ok (.ireturn, 1) := by decide +kernel
theorem dX0_yearsBehind_70 : decode cX0_yearsBehind 70 = .ok (.iload_n 0, 1) := by decide +kernel
theorem dX0_yearsBehind_71 : decode cX0_yearsBehind 71 = .ok (.iload_n 3, 1) := by decide +kernel
theorem dX0_yearsBehind_72 : decode cX0_yearsBehind 72 = .ok (.iload_n 2, 1) := by decide +kernel
theorem dX0_yearsBehind_73 : decode cX0_yearsBehind 73 = .ok (.iadd, 1) := by decide +kernel
theorem dX0_yearsBehind_74 : decode cX0_yearsBehind 74 = .ok (.iload 4, 2) := by decide +kernel
theorem dX0_yearsBehind_76 : decode cX0_yearsBehind 76 = .ok (.iload 5, 2) := by decide +kernel
theorem dX0_yearsBehind_78 : decode cX0_yearsBehind 78 = .ok (.invokestatic 54, 3) := by decide +kernel
theorem dX0_yearsBehind_81 : decode cX0_yearsBehind 81 = .ok (.ireturn, 1) := by decide +kernel
set_option maxRecDepth 20000 in
theorem ggX1_init_X4_init : GoodIn wsX1_init wsX4_init := goodIn_r _ [9, 10, 2, 3, 11, 12, 13, 14, 15, 16] (by decide +kernel) (by decide +kernel)
set_option maxRecDepth 20000 in
theorem gX1_init_X4_init_n11 : GoodIn wsX1_init (wsX4_init) := ggX1_init_X4_init
theorem dX1_init_0 : decode cX1_init 0 = .ok (.aload_n 0, 1) := by decide +kernel
theorem dX1_init_1 : decode cX1_init 1 = .ok (.invokespecial 3, 3) := by decide +kernel
theorem dX1_init_4 : decode cX1_init 4 = .ok (.aload_n 0, 1) := by decide +kernel
theorem dX1_init_5 : decode cX1_init 5 = .ok (.new 9, 3) := by decide +kernel
theorem dX1_init_8 : decode cX1_init 8 = .ok (.dup, 1) := by decide +kernel
theorem dX1_init_9 : decode cX1_init 9 = .ok (.invokespecial 11, 3) := by decide +kernel
theorem dX1_init_12 : decode cX1_init 12 = .ok (.putfield 12, 3) := by decide +kernel
theorem dX1_init_15 : decode cX1_init 15 = .ok (.return_, 1) := by decide +kernel
theorem dX1_begin_0 : decode cX1_begin 0 = .ok (.aload_n 0, 1) := by decide +kernel
theorem dX1_begin_1 : decode cX1_begin 1 = .ok (.iload_n 1, 1) := by decide +kernel
theorem dX1_begin_2 : decode cX1_begin 2 = .ok (.putfield 18, 3) := by decide +kernel
theorem dX1_begin_5 : decode cX1_begin 5 = .ok (.aload_n 0, 1) := by decide +kernel
theorem dX1_begin_6 : decode cX1_begin 6 = .ok (.iload_n 2, 1) := by decide +kernel
theorem dX1_begin_7 : decode cX1_begin 7 = .ok (.putfield 22, 3) := by decide +kernel
theorem dX1_begin_10 : decode cX1_begin 10 = .ok (.aload_n 0, 1) := by decide +kernel
theorem dX1_begin_11 : decode cX1_begin 11 = .ok (.iload_n 3, 1) := by decide +kernel
theorem dX1_begin_12 : decode cX1_begin 12 = .ok (.putfield 25, 3) := by decide +kernel
theorem dX1_begin_15 : decode cX1_begin 15 = .ok (.aload_n 0, 1) := by decide +kernel
theorem dX1_begin_16 : decode cX1_begin 16 = .ok (.iconst 1, 1) := by decide +kernel
theorem dX1_begin_17 : decode cX1_begin 17 = .ok (.putfield 28, 3) := by decide +kernel
theorem dX1_begin_20 : decode cX1_begin 20 = .ok (.aload_n 0, 1) := by decide +kernel
theorem dX1_begin_21 : decode cX1_begin 21 = .ok (.iconst (-1), 1) := by decide +kernel
theorem dX1_begin_22 : decode cX1_begin 22 = .ok (.putfield 32, 3) := by decide +kernel
theorem dX1_begin_25 : decode cX1_begin 25 = .ok (.return_, 1) := by decide +kernel
theorem dX1_setBehind_0 : decode cX1_setBehind 0 = .ok (.aload_n 0, 1) := by decide +kernel
theorem dX1_setBehind_1 : decode cX1_setBehind 1 = .ok (.iload_n 1, 1) := by decide +kernel
theorem dX1_setBehind_2 : decode cX1_setBehind 2 = .ok (.putfield 35, 3) := by decide +kernel
theorem dX1_setBehind_5 : decode cX1_setBehind 5 = .ok (.aload_n 0, 1) := by decide +kernel
theorem dX1_setBehind_6 : decode cX1_setBehind 6 = .ok (.iload_n 2, 1) := by decide +kernel
theorem dX1_setBehind_7 : decode cX1_setBehind 7 = .ok (.putfield 38, 3) := by decide +kernel
theorem dX1_setBehind_10 : decode cX1_setBehind 10 = .ok (.aload_n 0, 1) := by decide +kernel
theorem dX1_setBehind_11 : decode cX1_setBehind 11 = .ok (.iload_n 3, 1) := by decide +kernel
theorem dX1_setBehind_12 : decode cX1_setBehind 12 = .ok (.putfield 41, 3) := by decide +kernel
theorem dX1_setBehind_15 : decode cX1_setBehind 15 = .ok (.return_, 1) := by decide +kernel
set_option maxRecDepth 20000 in
theorem ggX2_init_X4_init : GoodIn wsX2_init wsX4_init := goodIn_r _ [18, 19, 2, 3, 4, 20, 21, 36, 37, 38] (by decide +kernel) (by decide +kernel)
set_option maxRecDepth 20000 in
theorem gX2_init_X4_init_n24 : GoodIn wsX2_init (wsX4_init) := ggX2_init_X4_init
theorem dX2_init_0 : decode cX2_init 0 = .ok (.aload_n 0, 1) := by decide +kernel
theorem dX2_init_1 : decode cX2_init 1 = .ok (.invokespecial 3, 3) := by decide +kernel
theorem dX2_init_4 : decode cX2_init 4 = .ok (.aload_n 0, 1) := by decide +kernel
theorem dX2_init_5 : decode cX2_init 5 = .ok (.bipush 6, 2) := by decide +kernel
theorem dX2_init_7 : decode cX2_init 7 = .ok (.newarray .int, 2) := by decide +kernel
theorem dX2_init_9 : decode cX2_init 9 = .ok (.putfield 9, 3) := by decide +kernel
theorem dX2_init_12 : decode cX2_init 12 = .ok (.aload_n 0, 1) := by decide +kernel
theorem dX2_init_13 : decode cX2_init 13 = .ok (.bipush 6, 2) := by decide +kernel
theorem dX2_init_15 : decode cX2_init 15 = .ok (.newarray .int, 2) := by decide +kernel
theorem dX2_init_17 : decode cX2_init 17 = .ok (.putfield 15, 3) := by decide +kernel
theorem dX2_init_20 : decode cX2_init 20 = .ok (.aload_n 0, 1) := by decide +kernel
theorem dX2_init_21 : decode cX2_init 21 = .ok (.bipush 6, 2) := by decide +kernel
theorem dX2_init_23 : decode cX2_init 23 = .ok (.anewarray 18, 3) := by decide +kernel
theorem dX2_init_26 : decode cX2_init 26 = .ok (.putfield 20, 3) := by decide +kernel
theorem dX2_init_29 : decode cX2_init 29 = .ok (.aload_n 0, 1) := by decide +kernel
theorem dX2_init_30 : decode cX2_init 30 = .ok (.new 18, 3) := by decide +kernel
theorem dX2_init_33 : decode cX2_init 33 = .ok (.dup, 1) := by decide +kernel
theorem dX2_init_34 : decode cX2_init 34 = .ok (.invokespecial 24, 3) := by decide +kernel
theorem dX2_init_37 : decode cX2_init 37 = .ok (.putfield 25, 3) := by decide +kernel
theorem dX2_init_40 : decode cX2_init 40 = .ok (.aload_n 0, 1) := by decide +kernel
theorem dX2_init_41 : decode cX2_init 41 = .ok (.new 18, 3) := by decide +kernel
theorem dX2_init_44 : decode cX2_init 44 = .ok (.dup, 1) := by decide +kernel
theorem dX2_init_45 : decode cX2_init 45 = .ok (.invokespecial 24, 3) := by decide +kernel
theorem dX2_init_48 : decode cX2_init 48 = .ok (.putfield 29, 3) := by decide +kernel
theorem dX2_init_51 : decode cX2_init 51 = .ok (.aload_n 0, 1) := by decide +kernel
theorem dX2_init_52 : decode cX2_init 52 = .ok (.bipush 6, 2) := by decide +kernel
theorem dX2_init_54 : decode cX2_init 54 = .ok (.bipush 6, 2) := by decide +kernel
theorem dX2_init_56 : decode cX2_init 56 = .ok (.multianewarray 32 2, 4) := by decide +kernel
theorem dX2_init_60 : decode cX2_init 60 = .ok (.putfield 34, 3) := by decide +kernel
theorem dX2_init_63 : decode cX2_init 63 = .ok (.aload_n 0, 1) := by decide +kernel
theorem dX2_init_64 : decode cX2_init 64 = .ok (.bipush 7, 2) := by decide +kernel
theorem dX2_init_66 : decode cX2_init 66 = .ok (.bipush 6, 2) := by decide +kernel
theorem dX2_init_68 : decode cX2_init 68 = .ok (.multianewarray 32 2, 4) := by decide +kernel
theorem dX2_init_72 : decode cX2_init 72 = .ok (.putfield 37, 3) := by decide +kernel
theorem dX2_init_75 : decode cX2_init 75 = .ok (.aload_n 0, 1) := by decide +kernel
theorem dX2_init_76 : decode cX2_init 76 = .ok (.bipush 7, 2) := by decide +kernel
theorem dX2_init_78 : decode cX2_init 78 = .ok (.bipush 6, 2) := by decide +kernel
theorem dX2_init_80 : decode cX2_init 80 = .ok (.multianewarray 32 2, 4) := by decide +kernel
theorem dX2_init_84 : decode cX2_init 84 = .ok (.putfield 40, 3) := by decide +kernel
theorem dX2_init_87 : decode cX2_init 87 = .ok (.iconst 0, 1) := by decide +kernel
theorem dX2_init_88 : decode cX2_init 88 = .ok (.istore_n 1, 1) := by decide +kernel
theorem dX2_init_89 : decode cX2_init 89 = .ok (.iload_n 1, 1) := by decide +kernel
theorem dX2_init_90 : decode cX2_init 90 = .ok (.bipush 6, 2) := by decide +kernel
theorem dX2_init_92 : decode cX2_init 92 = .ok (.if_icmp .ge 22, 3) := by decide +kernel
theorem dX2_init_95 : decode cX2_init 95 = .ok (.aload_n 0, 1) := by decide +kernel
theorem dX2_init_96 : decode cX2_init 96 = .ok (.getfield 20, 3) := by decide +kernel
theorem dX2_init_99 : decode cX2_init 99 = .ok (.iload_n 1, 1) := by decide +kernel
theorem dX2_init_100 : decode cX2_init 100 = .ok (.new 18, 3) := by decide +kernel
theorem dX2_init_103 : decode cX2_init 103 = .ok (.dup, 1) := by decide +kernel
theorem dX2_init_104 : decode cX2_init 104 = .ok (.invokespecial 24, 3) := by decide +kernel
theorem dX2_init_107 : decode cX2_init 107 = .ok (.aastore, 1) := by decide +kernel
theorem dX2_init_108 : decode cX2_init 108 = .ok (.iinc 1 1, 3) := by decide +kernel
theorem dX2_init_111 : decode cX2_init 111 = .ok (.goto (-22), 3) := by decide +kernel
theorem dX2_init_114 : decode cX2_init 114 = .ok (.return_, 1) := by decide +kernel
theorem dX2_begin_0 : decode cX2_begin 0 = .ok (.aload_n 0, 1) := by decide +kernel
theorem dX2_begin_1 : decode cX2_begin 1 = .ok (.iload_n 1, 1) := by decide +kernel
theorem dX2_begin_2 : decode cX2_begin 2 = .ok (.bipush 6, 2) := by decide +kernel
theorem dX2_begin_4 : decode cX2_begin 4 = .ok (.invokestatic 43, 3) := by decide +kernel
theorem dX2_begin_7 : decode cX2_begin 7 = .ok (.putfield 49, 3) := by decide +kernel
theorem dX2_begin_10 : decode cX2_begin 10 = .ok (.aload_n 0, 1) := by decide +kernel
theorem dX2_begin_11 : decode cX2_begin 11 = .ok (.iconst 0, 1) := by decide +kernel
theorem dX2_begin_12 : decode cX2_begin 12 = .ok (.putfield 53, 3) := by decide +kernel
theorem dX2_begin_15 : decode cX2_begin 15 = .ok (.aload_n 0, 1) := by decide +kernel
theorem dX2_begin_16 : decode cX2_begin 16 = .ok (.iconst 0, 1) := by decide +kernel
theorem dX2_begin_17 : decode cX2_begin 17 = .ok (.putfield 56, 3) := by decide +kernel
theorem dX2_begin_20 : decode cX2_begin 20 = .ok (.return_, 1) := by decide +kernel
set_option maxRecDepth 20000 in
theorem ggX2_lay_X2_clearTable : GoodIn wsX2_lay wsX2_clearTable := goodIn_r _ [9, 10, 11, 12, 13, 14, 15, 16, 17, 18, 19, 20, 21, 22, 23, 24, 25, 26, 27, 28, 29, 30, 31, 32, 33, 73, 74, 75, 76, 77, 78, 79, 80, 81, 82, 83, 84, 85, 86, 87, 88, 89] (by decide +kernel) (by decide +kernel)
set_option maxRecDepth 20000 in
theorem gX2_lay_X2_clearTable : GoodIn wsX2_lay (wsV RX2 60 RX2 yX2_clearTable wsX2_clearTable) := goodIn_app (goodIn_of _ (by decide +kernel)) ggX2_lay_X2_clearTable
set_option maxRecDepth 20000 in
theorem ggX2_lay_X2_layBehind : GoodIn wsX2_lay wsX2_layBehind := goodIn_r _ [37, 2, 38, 13, 39, 40, 30, 26, 31, 41, 64, 65, 66, 67, 68, 69, 70, 71, 72, 73, 74, 75, 76, 77, 78, 79, 80, 81, 82, 83, 84, 85, 86] (by decide +kernel) (by decide +kernel)
set_option maxRecDepth 20000 in
theorem gX2_lay_X2_layBehind : GoodIn wsX2_lay (wsV RX2 68 RX2 yX2_layBehind wsX2_layBehind) := goodIn_app (goodIn_of _ (by decide +kernel)) ggX2_lay_X2_layBehind
set_option maxRecDepth 20000 in
theorem ggX2_lay_X2_keepCommon : GoodIn wsX2_lay wsX2_keepCommon := goodIn_r _ [45, 11, 46, 47, 48, 49, 17, 50, 19, 32, 24, 25, 26, 27, 33, 29, 30, 31, 51, 15, 16, 18, 52, 21, 22, 23, 28, 73, 74, 75, 76, 77, 78, 79, 80, 81, 82, 83, 84, 85, 86, 87, 88, 89] (by decide +kernel) (by decide +kernel)
set_option maxRecDepth 20000 in
theorem gX2_lay_X2_keepCommon : GoodIn wsX2_lay (wsV RX2 77 RX2 yX2_keepCommon wsX2_keepCommon) := goodIn_app (goodIn_of _ (by decide +kernel)) ggX2_lay_X2_keepCommon
set_option maxRecDepth 20000 in
theorem ggX2_lay_X2_closeApart : GoodIn wsX2_lay wsX2_closeApart := goodIn_r _ [56, 10, 13, 40, 30, 26, 31, 73, 74, 75, 76, 77, 78, 79, 80, 81, 82, 83, 84, 85, 86] (by decide +kernel) (by decide +kernel)
set_option maxRecDepth 20000 in
theorem gX2_lay_X2_closeApart : GoodIn wsX2_lay (wsV RX2 81 RX2 yX2_closeApart wsX2_closeApart) := goodIn_app (goodIn_of _ (by decide +kernel)) ggX2_lay_X2_closeApart
set_option maxRecDepth 20000 in
theorem ggX2_lay_X2_boundDays : GoodIn wsX2_lay wsX2_boundDays := goodIn_r _ [60, 10, 61, 62, 12, 13, 63, 25, 26, 27, 40, 30, 31, 73, 74, 75, 76, 77, 78, 79, 80, 81, 82, 83, 84, 85, 86] (by decide +kernel) (by decide +kernel)
set_option maxRecDepth 20000 in
theorem gX2_lay_X2_boundDays : GoodIn wsX2_lay (wsV RX2 88 RX2 yX2_boundDays wsX2_boundDays) := goodIn_app (goodIn_of _ (by decide +kernel)) ggX2_lay_X2_boundDays
theorem dX2_lay_0 : decode cX2_lay 0 = .ok (.aload_n 0, 1) := by decide +kernel
theorem dX2_lay_1 : decode cX2_lay 1 = .ok (.invokevirtual 60, 3) := by decide +kernel
theorem dX2_lay_4 : decode cX2_lay 4 = .ok (.iconst 0, 1) := by decide +kernel
theorem dX2_lay_5 : decode cX2_lay 5 = .ok (.istore_n 3, 1) := by decide +kernel
theorem dX2_lay_6 : decode cX2_lay 6 = .ok (.iload_n 3, 1) := by decide +kernel
theorem dX2_lay_7 : decode cX2_lay 7 = .ok (.aload_n 1, 1) := by decide +kernel
theorem dX2_lay_8 : decode cX2_lay 8 = .ok (.arraylength, 1) := by decide +kernel
theorem dX2_lay_9 : decode cX2_lay 9 = .ok (.if_icmp .ge 57, 3) := by decide +kernel
theorem dX2_lay_12 : decode cX2_lay 12 = .ok (.iload_n 2, 1) := by decide +kernel
theorem dX2_lay_13 : decode cX2_lay 13 = .ok (.iload_n 3, 1) := by decide +kernel
theorem dX2_lay_14 : decode cX2_lay 14 = .ok (.ishr, 1) := by decide +kernel
theorem dX2_lay_15 : decode cX2_lay 15 = .ok (.iconst 1, 1) := by decide +kernel
theorem dX2_lay_16 : decode cX2_lay 16 = .ok (.iand, 1) := by decide +kernel
theorem dX2_lay_17 : decode cX2_lay 17 = .ok (.ifCond .ne 6, 3) := by decide +kernel
theorem dX2_lay_20 : decode cX2_lay 20 = .ok (.goto 40, 3) := by decide +kernel
theorem dX2_lay_23 : decode cX2_lay 23 = .ok (.aload_n 1, 1) := by decide +kernel
theorem dX2_lay_24 : decode cX2_lay 24 = .ok (.iload_n 3, 1) := by decide +kernel
theorem dX2_lay_25 : decode cX2_lay 25 = .ok (.aaload, 1) := by decide +kernel
theorem dX2_lay_26 : decode cX2_lay 26 = .ok (.getfield 63, 3) := by decide +kernel
theorem dX2_lay_29 : decode cX2_lay 29 = .ok (.bipush 6, 2) := by decide +kernel
theorem dX2_lay_31 : decode cX2_lay 31 = .ok (.if_icmp .ne 13, 3) := by decide +kernel
theorem dX2_lay_34 : decode cX2_lay 34 = .ok (.aload_n 0, 1) := by decide +kernel
theorem dX2_lay_35 : decode cX2_lay 35 = .ok (.aload_n 1, 1) := by decide +kernel
theorem dX2_lay_36 : decode cX2_lay 36 = .ok (.iload_n 3, 1) := by decide +kernel
theorem dX2_lay_37 : decode cX2_lay 37 = .ok (.aaload, 1) := by decide +kernel
theorem dX2_lay_38 : decode cX2_lay 38 = .ok (.invokevirtual 68, 3) := by decide +kernel
theorem dX2_lay_41 : decode cX2_lay 41 = .ok (.goto 19, 3) := by decide +kernel
theorem dX2_lay_44 : decode cX2_lay 44 = .ok (.aload_n 0, 1) := by decide +kernel
theorem dX2_lay_45 : decode cX2_lay 45 = .ok (.aload_n 1, 1) := by decide +kernel
theorem dX2_lay_46 : decode cX2_lay 46 = .ok (.iload_n 3, 1) := by decide +kernel
theorem dX2_lay_47 : decode cX2_lay 47 = .ok (.aaload, 1) := by decide +kernel
theorem dX2_lay_48 : decode cX2_lay 48 = .ok (.getfield 72, 3) := by decide +kernel
theorem dX2_lay_51 : decode cX2_lay 51 = .ok (.aload_n 1, 1) := by decide +kernel
theorem dX2_lay_52 : decode cX2_lay 52 = .ok (.iload_n 3, 1) := by decide +kernel
theorem dX2_lay_53 : decode cX2_lay 53 = .ok (.aaload, 1) := by decide +kernel
theorem dX2_lay_54 : decode cX2_lay 54 = .ok (.getfield 75, 3) := by decide +kernel
theorem dX2_lay_57 : decode cX2_lay 57 = .ok (.invokevirtual 77, 3) := by decide +kernel
theorem dX2_lay_60 : decode cX2_lay 60 = .ok (.iinc 3 1, 3) := by decide +kernel
theorem dX2_lay_63 : decode cX2_lay 63 = .ok (.goto (-57), 3) := by decide +kernel
theorem dX2_lay_66 : decode cX2_lay 66 = .ok (.aload_n 0, 1) := by decide +kernel
theorem dX2_lay_67 : decode cX2_lay 67 = .ok (.aload_n 0, 1) := by decide +kernel
theorem dX2_lay_68 : decode cX2_lay 68 = .ok (.invokevirtual 81, 3) := by decide +kernel
theorem dX2_lay_71 : decode cX2_lay 71 = .ok (.putfield 85, 3) := by decide +kernel
theorem dX2_lay_74 : decode cX2_lay 74 = .ok (.aload_n 0, 1) := by decide +kernel
theorem dX2_lay_75 : decode cX2_lay 75 = .ok (.invokevirtual 88, 3) := by decide +kernel
theorem dX2_lay_78 : decode cX2_lay 78 = .ok (.return_, 1) := by decide +kernel
set_option maxRecDepth 20000 in
theorem ggX2_clearTable_X4_clear : GoodIn wsX2_clearTable wsX4_clear := goodIn_r _ [9, 10, 39, 40, 41] (by decide +kernel) (by decide +kernel)
set_option maxRecDepth 20000 in
theorem gX2_clearTable_X4_clear : GoodIn wsX2_clearTable (wsV RX2 91 RX4 yX4_clear wsX4_clear) := goodIn_app (goodIn_of _ (by decide +kernel)) ggX2_clearTable_X4_clear
set_option maxRecDepth 20000 in
theorem ggX2_clearTable_X4_add : GoodIn wsX2_clearTable wsX4_add := goodIn_r _ [14, 15, 16, 17, 18, 19, 20, 21, 22, 10, 23, 24, 39, 40, 41] (by decide +kernel) (by decide +kernel)
set_option maxRecDepth 20000 in
theorem gX2_clearTable_X4_add : GoodIn wsX2_clearTable (wsV RX2 95 RX4 yX4_add wsX4_add) := goodIn_app (goodIn_of _ (by decide +kernel)) ggX2_clearTable_X4_add
theorem dX2_clearTable_0 : decode cX2_clearTable 0 = .ok (.iconst 0, 1) := by decide +kernel
theorem dX2_clearTable_1 : decode cX2_clearTable 1 = .ok (.istore_n 1, 1) := by decide +kernel
theorem dX2_clearTable_2 : decode cX2_clearTable 2 = .ok (.iload_n 1, 1) := by decide +kernel
theorem dX2_clearTable_3 : decode cX2_clearTable 3 = .ok (.aload_n 0, 1) := by decide +kernel
theorem dX2_clearTable_4 : decode cX2_clearTable 4 = .ok (.getfield 49, 3) := by decide +kernel
theorem dX2_clearTable_7 : decode cX2_clearTable 7 = .ok (.if_icmp .ge 65, 3) := by decide +kernel
theorem dX2_clearTable_10 : decode cX2_clearTable 10 = .ok (.aload_n 0, 1) := by decide +kernel
theorem dX2_clearTable_11 : decode cX2_clearTable 11 = .ok (.getfield 20, 3) := by decide +kernel
theorem dX2_clearTable_14 : decode cX2_clearTable 14 = .ok (.iload_n 1, 1) := by decide +kernel
theorem dX2_clearTable_15 : decode cX2_clearTable 15 = .ok (.aaload, 1) := by decide +kernel
theorem dX2_clearTable_16 : decode cX2_clearTable 16 = .ok (.invokevirtual 91, 3) := by decide +kernel
theorem dX2_clearTable_19 : decode cX2_clearTable 19 = .ok (.aload_n 0, 1) := by decide +kernel
theorem dX2_clearTable_20 : decode cX2_clearTable 20 = .ok (.getfield 20, 3) := by decide +kernel
theorem dX2_clearTable_23 : decode cX2_clearTable 23 = .ok (.iload_n 1, 1) := by decide +kernel
theorem dX2_clearTable_24 : decode cX2_clearTable 24 = .ok (.aaload, 1) := by decide +kernel
theorem dX2_clearTable_25 : decode cX2_clearTable 25 = .ok (.iconst 0, 1) := by decide +kernel
theorem dX2_clearTable_26 : decode cX2_clearTable 26 = .ok (.ldc 94, 2) := by decide +kernel
theorem dX2_clearTable_28 : decode cX2_clearTable 28 = .ok (.invokevirtual 95, 3) := by decide +kernel
theorem dX2_clearTable_31 : decode cX2_clearTable 31 = .ok (.iconst 0, 1) := by decide +kernel
theorem dX2_clearTable_32 : decode cX2_clearTable 32 = .ok (.istore_n 2, 1) := by decide +kernel
theorem dX2_clearTable_33 : decode cX2_clearTable 33 = .ok (.iload_n 2, 1) := by decide +kernel
theorem dX2_clearTable_34 : decode cX2_clearTable 34 = .ok (.aload_n 0, 1) := by decide +kernel
theorem dX2_clearTable_35 : decode cX2_clearTable 35 = .ok (.getfield 49, 3) := by decide +kernel
theorem dX2_clearTable_38 : decode cX2_clearTable 38 = .ok (.if_icmp .ge 28, 3) := by decide +kernel
theorem dX2_clearTable_41 : decode cX2_clearTable 41 = .ok (.aload_n 0, 1) := by decide +kernel
theorem dX2_clearTable_42 : decode cX2_clearTable 42 = .ok (.getfield 34, 3) := by decide +kernel
theorem dX2_clearTable_45 : decode cX2_clearTable 45 = .ok (.iload_n 1, 1) := by decide +kernel
theorem dX2_clearTable_46 : decode cX2_clearTable 46 = .ok (.aaload, 1) := by decide +kernel
theorem dX2_clearTable_47 : decode cX2_clearTable 47 = .ok (.iload_n 2, 1) := by decide +kernel
theorem dX2_clearTable_48 : decode cX2_clearTable 48 = .ok (.iload_n 1, 1) := by decide +kernel
theorem dX2_clearTable_49 : decode cX2_clearTable 49 = .ok (.iload_n 2, 1) := by decide +kernel
theorem dX2_clearTable_50 : decode cX2_clearTable 50 = .ok (.if_icmp .ne 7, 3) := by decide +kernel
theorem dX2_clearTable_53 : decode cX2_clearTable 53 = .ok (.iconst 0, 1) := by decide +kernel
theorem dX2_clearTable_54 : decode cX2_clearTable 54 = .ok (.goto 5, 3) := by decide +kernel
theorem dX2_clearTable_57 : decode cX2_clearTable 57 = .ok (.ldc 94, 2) := by decide +kernel
theorem dX2_clearTable_59 : decode cX2_clearTable 59 = .ok (.iastore, 1) := by decide +kernel
theorem dX2_clearTable_60 : decode cX2_clearTable 60 = .ok (.iinc 2 1, 3) := by decide +kernel
theorem dX2_clearTable_63 : decode cX2_clearTable 63 = .ok (.goto (-30), 3) := by decide +kernel
theorem dX2_clearTable_66 : decode cX2_clearTable 66 = .ok (.iinc 1 1, 3) := by decide +kernel
theorem dX2_clearTable_69 : decode cX2_clearTable 69 = .ok (.goto (-67), 3) := by decide +kernel
theorem dX2_clearTable_72 : decode cX2_clearTable 72 = .ok (.return_, 1) := by decide +kernel
theorem dX2_layBehind_0 : decode cX2_layBehind 0 = .ok (.aload_n 1, 1) := by decide +kernel
theorem dX2_layBehind_1 : decode cX2_layBehind 1 = .ok (.getfield 72, 3) := by decide +kernel
theorem dX2_layBehind_4 : decode cX2_layBehind 4 = .ok (.istore_n 2, 1) := by decide +kernel
theorem dX2_layBehind_5 : decode cX2_layBehind 5 = .ok (.aload_n 1, 1) := by decide +kernel
theorem dX2_layBehind_6 : decode cX2_layBehind 6 = .ok (.getfield 99, 3) := by decide +kernel
theorem dX2_layBehind_9 : decode cX2_layBehind 9 = .ok (.istore_n 3, 1) := by decide +kernel
theorem dX2_layBehind_10 : decode cX2_layBehind 10 = .ok (.aload_n 0, 1) := by decide +kernel
theorem dX2_layBehind_11 : decode cX2_layBehind 11 = .ok (.getfield 34, 3) := by decide +kernel
theorem dX2_layBehind_14 : decode cX2_layBehind 14 = .ok (.iload_n 3, 1) := by decide +kernel
theorem dX2_layBehind_15 : decode cX2_layBehind 15 = .ok (.aaload, 1) := by decide +kernel
theorem dX2_layBehind_16 : decode cX2_layBehind 16 = .ok (.iload_n 2, 1) := by decide +kernel
theorem dX2_layBehind_17 : decode cX2_layBehind 17 = .ok (.aload_n 0, 1) := by decide +kernel
theorem dX2_layBehind_18 : decode cX2_layBehind 18 = .ok (.getfield 34, 3) := by decide +kernel
theorem dX2_layBehind_21 : decode cX2_layBehind 21 = .ok (.iload_n 3, 1) := by decide +kernel
theorem dX2_layBehind_22 : decode cX2_layBehind 22 = .ok (.aaload, 1) := by decide +kernel
theorem dX2_layBehind_23 : decode cX2_layBehind 23 = .ok (.iload_n 2, 1) := by decide +kernel
theorem dX2_layBehind_24 : decode cX2_layBehind 24 = .ok (.iaload, 1) := by decide +kernel
theorem dX2_layBehind_25 : decode cX2_layBehind 25 = .ok (.aload_n 1, 1) := by decide +kernel
theorem dX2_layBehind_26 : decode cX2_layBehind 26 = .ok (.getfield 102, 3) := by decide +kernel
theorem dX2_layBehind_29 : decode cX2_layBehind 29 = .ok (.invokestatic 43, 3) := by decide +kernel
theorem dX2_layBehind_32 : decode cX2_layBehind 32 = .ok (.iastore, 1) := by decide +kernel
theorem dX2_layBehind_33 : decode cX2_layBehind 33 = .ok (.aload_n 0, 1) := by decide +kernel
theorem dX2_layBehind_34 : decode cX2_layBehind 34 = .ok (.getfield 34, 3) := by decide +kernel
theorem dX2_layBehind_37 : decode cX2_layBehind 37 = .ok (.iload_n 2, 1) := by decide +kernel
theorem dX2_layBehind_38 : decode cX2_layBehind 38 = .ok (.aaload, 1) := by decide +kernel
theorem dX2_layBehind_39 : decode cX2_layBehind 39 = .ok (.iload_n 3, 1) := by decide +kernel
theorem dX2_layBehind_40 : decode cX2_layBehind 40 = .ok (.aload_n 0, 1) := by decide +kernel
theorem dX2_layBehind_41 : decode cX2_layBehind 41 = .ok (.getfield 34, 3) := by decide +kernel
theorem dX2_layBehind_44 : decode cX2_layBehind 44 = .ok (.iload_n 2, 1) := by decide +kernel
theorem dX2_layBehind_45 : decode cX2_layBehind 45 = .ok (.aaload, 1) := by decide +kernel
theorem dX2_layBehind_46 : decode cX2_layBehind 46 = .ok (.iload_n 3, 1) := by decide +kernel
theorem dX2_layBehind_47 : decode cX2_layBehind 47 = .ok (.iaload, 1) := by decide +kernel
theorem dX2_layBehind_48 : decode cX2_layBehind 48 = .ok (.aload_n 1, 1) := by decide +kernel
theorem dX2_layBehind_49 : decode cX2_layBehind 49 = .ok (.getfield 105, 3) := by decide +kernel
theorem dX2_layBehind_52 : decode cX2_layBehind 52 = .ok (.ineg, 1) := by decide +kernel
theorem dX2_layBehind_53 : decode cX2_layBehind 53 = .ok (.invokestatic 43, 3) := by decide +kernel
theorem dX2_layBehind_56 : decode cX2_layBehind 56 = .ok (.iastore, 1) := by decide +kernel
theorem dX2_layBehind_57 : decode cX2_layBehind 57 = .ok (.return_, 1) := by decide +kernel
set_option maxRecDepth 20000 in
theorem ggX2_keepCommon_X4_setToCommon : GoodIn wsX2_keepCommon wsX4_setToCommon := goodIn_r _ [7, 8, 9, 10, 11, 12, 13, 14, 15, 16, 17, 18, 19, 20, 6, 21, 22, 23, 24, 25, 26, 41, 42, 43] (by decide +kernel) (by decide +kernel)
set_option maxRecDepth 20000 in
theorem gX2_keepCommon_X4_setToCommon : GoodIn wsX2_keepCommon (wsV RX2 108 RX4 yX4_setToCommon wsX4_setToCommon) := goodIn_app (goodIn_of _ (by decide +kernel)) ggX2_keepCommon_X4_setToCommon
theorem dX2_keepCommon_0 : decode cX2_keepCommon 0 = .ok (.aload_n 0, 1) := by decide +kernel
theorem dX2_keepCommon_1 : decode cX2_keepCommon 1 = .ok (.getfield 20, 3) := by decide +kernel
theorem dX2_keepCommon_4 : decode cX2_keepCommon 4 = .ok (.iload_n 1, 1) := by decide +kernel
theorem dX2_keepCommon_5 : decode cX2_keepCommon 5 = .ok (.aaload, 1) := by decide +kernel
theorem dX2_keepCommon_6 : decode cX2_keepCommon 6 = .ok (.astore_n 3, 1) := by decide +kernel
theorem dX2_keepCommon_7 : decode cX2_keepCommon 7 = .ok (.aload_n 0, 1) := by decide +kernel
theorem dX2_keepCommon_8 : decode cX2_keepCommon 8 = .ok (.getfield 25, 3) := by decide +kernel
theorem dX2_keepCommon_11 : decode cX2_keepCommon 11 = .ok (.aload_n 3, 1) := by decide +kernel
theorem dX2_keepCommon_12 : decode cX2_keepCommon 12 = .ok (.aload_n 2, 1) := by decide +kernel
theorem dX2_keepCommon_13 : decode cX2_keepCommon 13 = .ok (.invokevirtual 108, 3) := by decide +kernel
theorem dX2_keepCommon_16 : decode cX2_keepCommon 16 = .ok (.aload_n 0, 1) := by decide +kernel
theorem dX2_keepCommon_17 : decode cX2_keepCommon 17 = .ok (.getfield 20, 3) := by decide +kernel
theorem dX2_keepCommon_20 : decode cX2_keepCommon 20 = .ok (.iload_n 1, 1) := by decide +kernel
theorem dX2_keepCommon_21 : decode cX2_keepCommon 21 = .ok (.aload_n 0, 1) := by decide +kernel
theorem dX2_keepCommon_22 : decode cX2_keepCommon 22 = .ok (.getfield 25, 3) := by decide +kernel
theorem dX2_keepCommon_25 : decode cX2_keepCommon 25 = .ok (.aastore, 1) := by decide +kernel
theorem dX2_keepCommon_26 : decode cX2_keepCommon 26 = .ok (.aload_n 0, 1) := by decide +kernel
theorem dX2_keepCommon_27 : decode cX2_keepCommon 27 = .ok (.aload_n 3, 1) := by decide +kernel
theorem dX2_keepCommon_28 : decode cX2_keepCommon 28 = .ok (.putfield 25, 3) := by decide +kernel
theorem dX2_keepCommon_31 : decode cX2_keepCommon 31 = .ok (.return_, 1) := by decide +kernel
set_option maxRecDepth 20000 in
theorem ggX2_find_X4_clear : GoodIn wsX2_find wsX4_clear := goodIn_r _ [7, 8, 50, 51, 52] (by decide +kernel) (by decide +kernel)
set_option maxRecDepth 20000 in
theorem gX2_find_X4_clear : GoodIn wsX2_find (wsV RX2 91 RX4 yX4_clear wsX4_clear) := goodIn_app (goodIn_of _ (by decide +kernel)) ggX2_find_X4_clear
set_option maxRecDepth 20000 in
theorem ggX2_find_X4_add : GoodIn wsX2_find wsX4_add := goodIn_r _ [12, 13, 14, 15, 16, 17, 18, 19, 20, 8, 21, 22, 50, 51, 52] (by decide +kernel) (by decide +kernel)
set_option maxRecDepth 20000 in
theorem gX2_find_X4_add : GoodIn wsX2_find (wsV RX2 95 RX4 yX4_add wsX4_add) := goodIn_app (goodIn_of _ (by decide +kernel)) ggX2_find_X4_add
set_option maxRecDepth 20000 in
theorem ggX2_find_X2_keepCommon : GoodIn wsX2_find wsX2_keepCommon := goodIn_r _ [27, 28, 29, 30, 31, 32, 6, 33, 8, 21, 13, 14, 15, 16, 22, 18, 19, 20, 34, 4, 5, 7, 35, 10, 11, 12, 17, 36, 37, 38, 39, 40, 41, 42, 43, 44, 45, 46, 47, 48, 49, 50, 51, 52] (by decide +kernel) (by decide +kernel)
set_option maxRecDepth 20000 in
theorem gX2_find_X2_keepCommon : GoodIn wsX2_find (wsV RX2 77 RX2 yX2_keepCommon wsX2_keepCommon) := goodIn_app (goodIn_of _ (by decide +kernel)) ggX2_find_X2_keepCommon
theorem dX2_find_0 : decode cX2_find 0 = .ok (.iload_n 1, 1) := by decide +kernel
theorem dX2_find_1 : decode cX2_find 1 = .ok (.ifCond .lt 36, 3) := by decide +kernel
theorem dX2_find_4 : decode cX2_find 4 = .ok (.iload_n 1, 1) := by decide +kernel
theorem dX2_find_5 : decode cX2_find 5 = .ok (.aload_n 0, 1) := by decide +kernel
theorem dX2_find_6 : decode cX2_find 6 = .ok (.getfield 49, 3) := by decide +kernel
theorem dX2_find_9 : decode cX2_find 9 = .ok (.if_icmp .ge 28, 3) := by decide +kernel
theorem dX2_find_12 : decode cX2_find 12 = .ok (.aload_n 0, 1) := by decide +kernel
theorem dX2_find_13 : decode cX2_find 13 = .ok (.getfield 29, 3) := by decide +kernel
theorem dX2_find_16 : decode cX2_find 16 = .ok (.invokevirtual 91, 3) := by decide +kernel
theorem dX2_find_19 : decode cX2_find 19 = .ok (.aload_n 0, 1) := by decide +kernel
theorem dX2_find_20 : decode cX2_find 20 = .ok (.getfield 29, 3) := by decide +kernel
theorem dX2_find_23 : decode cX2_find 23 = .ok (.iload_n 2, 1) := by decide +kernel
theorem dX2_find_24 : decode cX2_find 24 = .ok (.iload_n 2, 1) := by decide +kernel
theorem dX2_find_25 : decode cX2_find 25 = .ok (.invokevirtual 95, 3) := by decide +kernel
theorem dX2_find_28 : decode cX2_find 28 = .ok (.aload_n 0, 1) := by decide +kernel
theorem dX2_find_29 : decode cX2_find 29 = .ok (.iload_n 1, 1) := by decide +kernel
theorem dX2_find_30 : decode cX2_find 30 = .ok (.aload_n 0, 1) := by decide +kernel
theorem dX2_find_31 : decode cX2_find 31 = .ok (.getfield 29, 3) := by decide +kernel
theorem dX2_find_34 : decode cX2_find 34 = .ok (.invokevirtual 77, 3) := by decide +kernel
theorem dX2_find_37 : decode cX2_find 37 = .ok (.return_, 1) := by decide +kernel
end
section
theorem dX2_closeApart_0 : decode cX2_closeApart 0 = .ok (.iconst 0, 1) := by decide +kernel
theorem dX2_closeApart_1 : decode cX2_closeApart 1 = .ok (.istore_n 1, 1) := by decide +kernel
theorem dX2_closeApart_2 : decode cX2_closeApart 2 = .ok (.iload_n 1, 1) := by decide +kernel
theorem dX2_closeApart_3 : decode cX2_closeApart 3 = .ok (.aload_n 0, 1) := by decide +kernel
theorem dX2_closeApart_4 : decode cX2_closeApart 4 = .ok (.getfield 49, 3) := by decide +kernel
theorem dX2_closeApart_7 : decode cX2_closeApart 7 = .ok (.if_icmp .ge 106, 3) := by decide +kernel
theorem dX2_closeApart_10 : decode cX2_closeApart 10 = .ok (.iconst 0, 1) := by decide +kernel
theorem dX2_closeApart_11 : decode cX2_closeApart 11 = .ok (.istore_n 2, 1) := by decide +kernel
theorem dX2_closeApart_12 : decode cX2_closeApart 12 = .ok (.iload_n 2, 1) := by decide +kernel
theorem dX2_closeApart_13 : decode cX2_closeApart 13 = .ok (.aload_n 0, 1) := by decide +kernel
theorem dX2_closeApart_14 : decode cX2_closeApart 14 = .ok (.getfield 49, 3) := by decide +kernel
theorem dX2_closeApart_17 : decode cX2_closeApart 17 = .ok (.if_icmp .ge 61, 3) := by decide +kernel
theorem dX2_closeApart_20 : decode cX2_closeApart 20 = .ok (.iconst 0, 1) := by decide +kernel
theorem dX2_closeApart_21 : decode cX2_closeApart 21 = .ok (.istore_n 3, 1) := by decide +kernel
theorem dX2_closeApart_22 : decode cX2_closeApart 22 = .ok (.iload_n 3, 1) := by decide +kernel
theorem dX2_closeApart_23 : decode cX2_closeApart 23 = .ok (.aload_n 0, 1) := by decide +kernel
theorem dX2_closeApart_24 : decode cX2_closeApart 24 = .ok (.getfield 49, 3) := by decide +kernel
theorem dX2_closeApart_27 : decode cX2_closeApart 27 = .ok (.if_icmp .ge 45, 3) := by decide +kernel
theorem dX2_closeApart_30 : decode cX2_closeApart 30 = .ok (.aload_n 0, 1) := by decide +kernel
theorem dX2_closeApart_31 : decode cX2_closeApart 31 = .ok (.getfield 34, 3) := by decide +kernel
theorem dX2_closeApart_34 : decode cX2_closeApart 34 = .ok (.iload_n 2, 1) := by decide +kernel
theorem dX2_closeApart_35 : decode cX2_closeApart 35 = .ok (.aaload, 1) := by decide +kernel
theorem dX2_closeApart_36 : decode cX2_closeApart 36 = .ok (.iload_n 3, 1) := by decide +kernel
theorem dX2_closeApart_37 : decode cX2_closeApart 37 = .ok (.aload_n 0, 1) := by decide +kernel
theorem dX2_closeApart_38 : decode cX2_closeApart 38 = .ok (.getfield 34, 3) := by decide +kernel
theorem dX2_closeApart_41 : decode cX2_closeApart 41 = .ok (.iload_n 2, 1) := by decide +kernel
theorem dX2_closeApart_42 : decode cX2_closeApart 42 = .ok (.aaload, 1) := by decide +kernel
theorem dX2_closeApart_43 : decode cX2_closeApart 43 = .ok (.iload_n 3, 1) := by decide +kernel
theorem dX2_closeApart_44 : decode cX2_closeApart 44 = .ok (.iaload, 1) := by decide +kernel
theorem dX2_closeApart_45 : decode cX2_closeApart 45 = .ok (.aload_n 0, 1) := by decide +kernel
theorem dX2_closeApart_46 : decode cX2_closeApart 46 = .ok (.getfield 34, 3) := by decide +kernel
theorem dX2_closeApart_49 : decode cX2_closeApart 49 = .ok (.iload_n 2, 1) := by decide +kernel
theorem dX2_closeApart_50 : decode cX2_closeApart 50 = .ok (.aaload, 1) := by decide +kernel
theorem dX2_closeApart_51 : decode cX2_closeApart 51 = .ok (.iload_n 1, 1) := by decide +kernel
theorem dX2_closeApart_52 : decode cX2_closeApart 52 = .ok (.iaload, 1) := by decide +kernel
theorem dX2_closeApart_53 : decode cX2_closeApart 53 = .ok (.aload_n 0, 1) := by decide +kernel
theorem dX2_closeApart_54 : decode cX2_closeApart 54 = .ok (.getfield 34, 3) := by decide +kernel
theorem dX2_closeApart_57 : decode cX2_closeApart 57 = .ok (.iload_n 1, 1) := by decide +kernel
theorem dX2_closeApart_58 : decode cX2_closeApart 58 = .ok (.aaload, 1) := by decide +kernel
theorem dX2_closeApart_59 : decode cX2_closeApart 59 = .ok (.iload_n 3, 1) := by decide +kernel
theorem dX2_closeApart_60 : decode cX2_closeApart 60 = .ok (.iaload, 1) := by decide +kernel
theorem dX2_closeApart_61 : decode cX2_closeApart 61 = .ok (.iadd, 1) := by decide +kernel
theorem dX2_closeApart_62 : decode cX2_closeApart 62 = .ok (.invokestatic 43, 3) := by decide +kernel
theorem dX2_closeApart_65 : decode cX2_closeApart 65 = .ok (.iastore, 1) := by decide +kernel
theorem dX2_closeApart_66 : decode cX2_closeApart 66 = .ok (.iinc 3 1, 3) := by decide +kernel
theorem dX2_closeApart_69 : decode cX2_closeApart 69 = .ok (.goto (-47), 3) := by decide +kernel
theorem dX2_closeApart_72 : decode cX2_closeApart 72 = .ok (.iinc 2 1, 3) := by decide +kernel
theorem dX2_closeApart_75 : decode cX2_closeApart 75 = .ok (.goto (-63), 3) := by decide +kernel
theorem dX2_closeApart_78 : decode cX2_closeApart 78 = .ok (.iconst 0, 1) := by decide +kernel
theorem dX2_closeApart_79 : decode cX2_closeApart 79 = .ok (.istore_n 2, 1) := by decide +kernel
theorem dX2_closeApart_80 : decode cX2_closeApart 80 = .ok (.iload_n 2, 1) := by decide +kernel
theorem dX2_closeApart_81 : decode cX2_closeApart 81 = .ok (.aload_n 0, 1) := by decide +kernel
theorem dX2_closeApart_82 : decode cX2_closeApart 82 = .ok (.getfield 49, 3) := by decide +kernel
theorem dX2_closeApart_85 : decode cX2_closeApart 85 = .ok (.if_icmp .ge 22, 3) := by decide +kernel
theorem dX2_closeApart_88 : decode cX2_closeApart 88 = .ok (.aload_n 0, 1) := by decide +kernel
theorem dX2_closeApart_89 : decode cX2_closeApart 89 = .ok (.getfield 34, 3) := by decide +kernel
theorem dX2_closeApart_92 : decode cX2_closeApart 92 = .ok (.iload_n 2, 1) := by decide +kernel
theorem dX2_closeApart_93 : decode cX2_closeApart 93 = .ok (.aaload, 1) := by decide +kernel
theorem dX2_closeApart_94 : decode cX2_closeApart 94 = .ok (.iload_n 2, 1) := by decide +kernel
theorem dX2_closeApart_95 : decode cX2_closeApart 95 = .ok (.iaload, 1) := by decide +kernel
theorem dX2_closeApart_96 : decode cX2_closeApart 96 = .ok (.ifCond .ge 5, 3) := by decide +kernel
theorem dX2_closeApart_99 : decode cX2_closeApart 99 = .ok (.iconst 0, 1) := by decide +kernel
theorem dX2_closeApart_100 : decode cX2_closeApart 100 = .ok (.ireturn, 1) := by decide +kernel
theorem dX2_closeApart_101 : decode cX2_closeApart 101 = .ok (.iinc 2 1, 3) := by decide +kernel
theorem dX2_closeApart_104 : decode cX2_closeApart 104 = .ok (.goto (-24), 3) := by decide +kernel
theorem dX2_closeApart_107 : decode cX2_closeApart 107 = .ok (.iinc 1 1, 3) := by decide +kernel
theorem dX2_closeApart_110 : decode cX2_closeApart 110 = .ok (.goto (-108), 3) := by decide +kernel
theorem dX2_closeApart_113 : decode cX2_closeApart 113 = .ok (.iconst 1, 1) := by decide +kernel
theorem dX2_closeApart_114 : decode cX2_closeApart 114 = .ok (.ireturn, 1) := by decide +kernel
theorem dX2_boundDays_0 : decode cX2_boundDays 0 = .ok (.iconst 0, 1) := by decide +kernel
theorem dX2_boundDays_1 : decode cX2_boundDays 1 = .ok (.istore_n 1, 1) := by decide +kernel
theorem dX2_boundDays_2 : decode cX2_boundDays 2 = .ok (.iload_n 1, 1) := by decide +kernel
theorem dX2_boundDays_3 : decode cX2_boundDays 3 = .ok (.aload_n 0, 1) := by decide +kernel
theorem dX2_boundDays_4 : decode cX2_boundDays 4 = .ok (.getfield 49, 3) := by decide +kernel
theorem dX2_boundDays_7 : decode cX2_boundDays 7 = .ok (.if_icmp .ge 102, 3) := by decide +kernel
theorem dX2_boundDays_10 : decode cX2_boundDays 10 = .ok (.aload_n 0, 1) := by decide +kernel
theorem dX2_boundDays_11 : decode cX2_boundDays 11 = .ok (.getfield 37, 3) := by decide +kernel
theorem dX2_boundDays_14 : decode cX2_boundDays 14 = .ok (.iconst 0, 1) := by decide +kernel
theorem dX2_boundDays_15 : decode cX2_boundDays 15 = .ok (.aaload, 1) := by decide +kernel
theorem dX2_boundDays_16 : decode cX2_boundDays 16 = .ok (.iload_n 1, 1) := by decide +kernel
theorem dX2_boundDays_17 : decode cX2_boundDays 17 = .ok (.iconst 0, 1) := by decide +kernel
theorem dX2_boundDays_18 : decode cX2_boundDays 18 = .ok (.iastore, 1) := by decide +kernel
theorem dX2_boundDays_19 : decode cX2_boundDays 19 = .ok (.aload_n 0, 1) := by decide +kernel
theorem dX2_boundDays_20 : decode cX2_boundDays 20 = .ok (.getfield 40, 3) := by decide +kernel
theorem dX2_boundDays_23 : decode cX2_boundDays 23 = .ok (.iconst 0, 1) := by decide +kernel
theorem dX2_boundDays_24 : decode cX2_boundDays 24 = .ok (.aaload, 1) := by decide +kernel
theorem dX2_boundDays_25 : decode cX2_boundDays 25 = .ok (.iload_n 1, 1) := by decide +kernel
theorem dX2_boundDays_26 : decode cX2_boundDays 26 = .ok (.ldc 94, 2) := by decide +kernel
theorem dX2_boundDays_28 : decode cX2_boundDays 28 = .ok (.iastore, 1) := by decide +kernel
theorem dX2_boundDays_29 : decode cX2_boundDays 29 = .ok (.iconst 0, 1) := by decide +kernel
theorem dX2_boundDays_30 : decode cX2_boundDays 30 = .ok (.istore_n 2, 1) := by decide +kernel
theorem dX2_boundDays_31 : decode cX2_boundDays 31 = .ok (.iload_n 2, 1) := by decide +kernel
theorem dX2_boundDays_32 : decode cX2_boundDays 32 = .ok (.aload_n 0, 1) := by decide +kernel
theorem dX2_boundDays_33 : decode cX2_boundDays 33 = .ok (.getfield 49, 3) := by decide +kernel
theorem dX2_boundDays_36 : decode cX2_boundDays 36 = .ok (.if_icmp .ge 67, 3) := by decide +kernel
theorem dX2_boundDays_39 : decode cX2_boundDays 39 = .ok (.aload_n 0, 1) := by decide +kernel
theorem dX2_boundDays_40 : decode cX2_boundDays 40 = .ok (.getfield 37, 3) := by decide +kernel
theorem dX2_boundDays_43 : decode cX2_boundDays 43 = .ok (.iconst 0, 1) := by decide +kernel
theorem dX2_boundDays_44 : decode cX2_boundDays 44 = .ok (.aaload, 1) := by decide +kernel
theorem dX2_boundDays_45 : decode cX2_boundDays 45 = .ok (.iload_n 1, 1) := by decide +kernel
theorem dX2_boundDays_46 : decode cX2_boundDays 46 = .ok (.aload_n 0, 1) := by decide +kernel
theorem dX2_boundDays_47 : decode cX2_boundDays 47 = .ok (.getfield 37, 3) := by decide +kernel
theorem dX2_boundDays_50 : decode cX2_boundDays 50 = .ok (.iconst 0, 1) := by decide +kernel
theorem dX2_boundDays_51 : decode cX2_boundDays 51 = .ok (.aaload, 1) := by decide +kernel
theorem dX2_boundDays_52 : decode cX2_boundDays 52 = .ok (.iload_n 1, 1) := by decide +kernel
theorem dX2_boundDays_53 : decode cX2_boundDays 53 = .ok (.iaload, 1) := by decide +kernel
theorem dX2_boundDays_54 : decode cX2_boundDays 54 = .ok (.aload_n 0, 1) := by decide +kernel
theorem dX2_boundDays_55 : decode cX2_boundDays 55 = .ok (.getfield 34, 3) := by decide +kernel
theorem dX2_boundDays_58 : decode cX2_boundDays 58 = .ok (.iload_n 1, 1) := by decide +kernel
theorem dX2_boundDays_59 : decode cX2_boundDays 59 = .ok (.aaload, 1) := by decide +kernel
theorem dX2_boundDays_60 : decode cX2_boundDays 60 = .ok (.iload_n 2, 1) := by decide +kernel
theorem dX2_boundDays_61 : decode cX2_boundDays 61 = .ok (.iaload, 1) := by decide +kernel
theorem dX2_boundDays_62 : decode cX2_boundDays 62 = .ok (.ineg, 1) := by decide +kernel
theorem dX2_boundDays_63 : decode cX2_boundDays 63 = .ok (.invokestatic 112, 3) := by decide +kernel
theorem dX2_boundDays_66 : decode cX2_boundDays 66 = .ok (.iastore, 1) := by decide +kernel
theorem dX2_boundDays_67 : decode cX2_boundDays 67 = .ok (.aload_n 0, 1) := by decide +kernel
theorem dX2_boundDays_68 : decode cX2_boundDays 68 = .ok (.getfield 40, 3) := by decide +kernel
theorem dX2_boundDays_71 : decode cX2_boundDays 71 = .ok (.iconst 0, 1) := by decide +kernel
theorem dX2_boundDays_72 : decode cX2_boundDays 72 = .ok (.aaload, 1) := by decide +kernel
theorem dX2_boundDays_73 : decode cX2_boundDays 73 = .ok (.iload_n 1, 1) := by decide +kernel
theorem dX2_boundDays_74 : decode cX2_boundDays 74 = .ok (.aload_n 0, 1) := by decide +kernel
theorem dX2_boundDays_75 : decode cX2_boundDays 75 = .ok (.getfield 40, 3) := by decide +kernel
theorem dX2_boundDays_78 : decode cX2_boundDays 78 = .ok (.iconst 0, 1) := by decide +kernel
theorem dX2_boundDays_79 : decode cX2_boundDays 79 = .ok (.aaload, 1) := by decide +kernel
theorem dX2_boundDays_80 : decode cX2_boundDays 80 = .ok (.iload_n 1, 1) := by decide +kernel
theorem dX2_boundDays_81 : decode cX2_boundDays 81 = .ok (.iaload, 1) := by decide +kernel
theorem dX2_boundDays_82 : decode cX2_boundDays 82 = .ok (.ldc 94, 2) := by decide +kernel
theorem dX2_boundDays_84 : decode cX2_boundDays 84 = .ok (.aload_n 0, 1) := by decide +kernel
theorem dX2_boundDays_85 : decode cX2_boundDays 85 = .ok (.getfield 34, 3) := by decide +kernel
theorem dX2_boundDays_88 : decode cX2_boundDays 88 = .ok (.iload_n 2, 1) := by decide +kernel
theorem dX2_boundDays_89 : decode cX2_boundDays 89 = .ok (.aaload, 1) := by decide +kernel
theorem dX2_boundDays_90 : decode cX2_boundDays 90 = .ok (.iload_n 1, 1) := by decide +kernel
theorem dX2_boundDays_91 : decode cX2_boundDays 91 = .ok (.iaload, 1) := by decide +kernel
theorem dX2_boundDays_92 : decode cX2_boundDays 92 = .ok (.iadd, 1) := by decide +kernel
theorem dX2_boundDays_93 : decode cX2_boundDays 93 = .ok (.invokestatic 43, 3) := by decide +kernel
theorem dX2_boundDays_96 : decode cX2_boundDays 96 = .ok (.iastore, 1) := by decide +kernel
theorem dX2_boundDays_97 : decode cX2_boundDays 97 = .ok (.iinc 2 1, 3) := by decide +kernel
theorem dX2_boundDays_100 : decode cX2_boundDays 100 = .ok (.goto (-69), 3) := by decide +kernel
theorem dX2_boundDays_103 : decode cX2_boundDays 103 = .ok (.iinc 1 1, 3) := by decide +kernel
theorem dX2_boundDays_106 : decode cX2_boundDays 106 = .ok (.goto (-104), 3) := by decide +kernel
theorem dX2_boundDays_109 : decode cX2_boundDays 109 = .ok (.return_, 1) := by decide +kernel
set_option maxRecDepth 20000 in
theorem ggX2_run_X2_takeSpans : GoodIn wsX2_run wsX2_takeSpans := goodIn_r _ [8, 9, 10, 11, 12, 3, 13, 14, 15, 1, 2, 16, 17, 18, 7, 19, 20, 21, 22, 23, 24, 25, 26, 27, 28, 29, 30, 31, 32, 33, 34, 35, 4, 5, 6, 36, 37, 38, 39, 40, 41, 42, 43, 44, 45, 46, 47, 48, 49, 50, 51, 52] (by decide +kernel) (by decide +kernel)
set_option maxRecDepth 20000 in
theorem gX2_run_X2_takeSpans : GoodIn wsX2_run (wsV RX2 121 RX2 yX2_takeSpans wsX2_takeSpans) := goodIn_app (goodIn_of _ (by decide +kernel)) ggX2_run_X2_takeSpans
theorem dX2_run_0 : decode cX2_run 0 = .ok (.aload_n 0, 1) := by decide +kernel
theorem dX2_run_1 : decode cX2_run 1 = .ok (.iload_n 1, 1) := by decide +kernel
theorem dX2_run_2 : decode cX2_run 2 = .ok (.putfield 115, 3) := by decide +kernel
theorem dX2_run_5 : decode cX2_run 5 = .ok (.aload_n 0, 1) := by decide +kernel
theorem dX2_run_6 : decode cX2_run 6 = .ok (.iconst 0, 1) := by decide +kernel
theorem dX2_run_7 : decode cX2_run 7 = .ok (.putfield 118, 3) := by decide +kernel
theorem dX2_run_10 : decode cX2_run 10 = .ok (.aload_n 0, 1) := by decide +kernel
theorem dX2_run_11 : decode cX2_run 11 = .ok (.iconst 0, 1) := by decide +kernel
theorem dX2_run_12 : decode cX2_run 12 = .ok (.invokevirtual 121, 3) := by decide +kernel
theorem dX2_run_15 : decode cX2_run 15 = .ok (.aload_n 0, 1) := by decide +kernel
theorem dX2_run_16 : decode cX2_run 16 = .ok (.getfield 56, 3) := by decide +kernel
theorem dX2_run_19 : decode cX2_run 19 = .ok (.ifCond .eq 6, 3) := by decide +kernel
theorem dX2_run_22 : decode cX2_run 22 = .ok (.bipush (-2), 2) := by decide +kernel
theorem dX2_run_24 : decode cX2_run 24 = .ok (.ireturn, 1) := by decide +kernel
theorem dX2_run_25 : decode cX2_run 25 = .ok (.aload_n 0, 1) := by decide +kernel
theorem dX2_run_26 : decode cX2_run 26 = .ok (.getfield 118, 3) := by decide +kernel
theorem dX2_run_29 : decode cX2_run 29 = .ok (.ifCond .eq 7, 3) := by decide +kernel
theorem dX2_run_32 : decode cX2_run 32 = .ok (.iconst 1, 1) := by decide +kernel
theorem dX2_run_33 : decode cX2_run 33 = .ok (.goto 4, 3) := by decide +kernel
theorem dX2_run_36 : decode cX2_run 36 = .ok (.iconst 0, 1) := by decide +kernel
theorem dX2_run_37 : decode cX2_run 37 = .ok (.ireturn, 1) := by decide +kernel
set_option maxRecDepth 20000 in
theorem ggX2_takeSpans_X2_noteWay : GoodIn wsX2_takeSpans wsX2_noteWay := goodIn_r _ [15, 1, 16, 17, 18, 10, 19, 20, 21, 22, 23, 24, 25, 26, 35, 36, 37, 38, 39, 40, 41, 42, 43, 44, 45, 46, 47, 48] (by decide +kernel) (by decide +kernel)
set_option maxRecDepth 20000 in
theorem gX2_takeSpans_X2_noteWay : GoodIn wsX2_takeSpans (wsV RX2 125 RX2 yX2_noteWay wsX2_noteWay) := goodIn_app (goodIn_of _ (by decide +kernel)) ggX2_takeSpans_X2_noteWay
set_option maxRecDepth 20000 in
theorem ggX2_takeSpans_X2_narrow : GoodIn wsX2_takeSpans wsX2_narrow := goodIn_r _ [30, 16, 24, 25, 21, 26, 17, 19, 20, 22, 1, 31, 35, 36, 37, 38, 39, 40, 41, 42, 43, 44, 45, 46, 47, 48] (by decide +kernel) (by decide +kernel)
set_option maxRecDepth 20000 in
theorem gX2_takeSpans_X2_narrow : GoodIn wsX2_takeSpans (wsV RX2 137 RX2 yX2_narrow wsX2_narrow) := goodIn_app (goodIn_of _ (by decide +kernel)) ggX2_takeSpans_X2_narrow
set_option maxRecDepth 20000 in
theorem ggX2_takeSpans_X2_takeSpans : GoodIn wsX2_takeSpans wsX2_takeSpans := goodIn_r _ [0, 1, 2, 3, 4, 5, 6, 7, 8, 9, 10, 11, 12, 13, 14, 15, 16, 17, 18, 19, 20, 21, 22, 23, 24, 25, 26, 27, 28, 29, 30, 31, 32, 33, 34, 35, 36, 37, 38, 39, 40, 41, 42, 43, 44, 45, 46, 47, 48, 49, 50, 51] (by decide +kernel) (by decide +kernel)
set_option maxRecDepth 20000 in
theorem gX2_takeSpans_X2_takeSpans : GoodIn wsX2_takeSpans (wsV RX2 121 RX2 yX2_takeSpans wsX2_takeSpans) := goodIn_app (goodIn_of _ (by decide +kernel)) ggX2_takeSpans_X2_takeSpans
theorem dX2_takeSpans_0 : decode cX2_takeSpans 0 = .ok (.iload_n 1, 1) := by decide +kernel
theorem dX2_takeSpans_1 : decode cX2_takeSpans 1 = .ok (.aload_n 0, 1) := by decide +kernel
theorem dX2_takeSpans_2 : decode cX2_takeSpans 2 = .ok (.getfield 49, 3) := by decide +kernel
theorem dX2_takeSpans_5 : decode cX2_takeSpans 5 = .ok (.if_icmp .lt 8, 3) := by decide +kernel
theorem dX2_takeSpans_8 : decode cX2_takeSpans 8 = .ok (.aload_n 0, 1) := by decide +kernel
theorem dX2_takeSpans_9 : decode cX2_takeSpans 9 = .ok (.invokevirtual 125, 3) := by decide +kernel
theorem dX2_takeSpans_12 : decode cX2_takeSpans 12 = .ok (.return_, 1) := by decide +kernel
theorem dX2_takeSpans_13 : decode cX2_takeSpans 13 = .ok (.iconst 0, 1) := by decide +kernel
theorem dX2_takeSpans_14 : decode cX2_takeSpans 14 = .ok (.istore_n 2, 1) := by decide +kernel
theorem dX2_takeSpans_15 : decode cX2_takeSpans 15 = .ok (.iload_n 2, 1) := by decide +kernel
theorem dX2_takeSpans_16 : decode cX2_takeSpans 16 = .ok (.aload_n 0, 1) := by decide +kernel
theorem dX2_takeSpans_17 : decode cX2_takeSpans 17 = .ok (.getfield 20, 3) := by decide +kernel
theorem dX2_takeSpans_20 : decode cX2_takeSpans 20 = .ok (.iload_n 1, 1) := by decide +kernel
theorem dX2_takeSpans_21 : decode cX2_takeSpans 21 = .ok (.aaload, 1) := by decide +kernel
theorem dX2_takeSpans_22 : decode cX2_takeSpans 22 = .ok (.getfield 128, 3) := by decide +kernel
theorem dX2_takeSpans_25 : decode cX2_takeSpans 25 = .ok (.if_icmp .ge 101, 3) := by decide +kernel
theorem dX2_takeSpans_28 : decode cX2_takeSpans 28 = .ok (.aload_n 0, 1) := by decide +kernel
theorem dX2_takeSpans_29 : decode cX2_takeSpans 29 = .ok (.getfield 53, 3) := by decide +kernel
theorem dX2_takeSpans_32 : decode cX2_takeSpans 32 = .ok (.sipush 20000, 3) := by decide +kernel
theorem dX2_takeSpans_35 : decode cX2_takeSpans 35 = .ok (.if_icmp .lt 9, 3) := by decide +kernel
theorem dX2_takeSpans_38 : decode cX2_takeSpans 38 = .ok (.aload_n 0, 1) := by decide +kernel
theorem dX2_takeSpans_39 : decode cX2_takeSpans 39 = .ok (.iconst 1, 1) := by decide +kernel
theorem dX2_takeSpans_40 : decode cX2_takeSpans 40 = .ok (.putfield 56, 3) := by decide +kernel
theorem dX2_takeSpans_43 : decode cX2_takeSpans 43 = .ok (.return_, 1) := by decide +kernel
theorem dX2_takeSpans_44 : decode cX2_takeSpans 44 = .ok (.aload_n 0, 1) := by decide +kernel
theorem dX2_takeSpans_45 : decode cX2_takeSpans 45 = .ok (.dup, 1) := by decide +kernel
theorem dX2_takeSpans_46 : decode cX2_takeSpans 46 = .ok (.getfield 53, 3) := by decide +kernel
theorem dX2_takeSpans_49 : decode cX2_takeSpans 49 = .ok (.iconst 1, 1) := by decide +kernel
theorem dX2_takeSpans_50 : decode cX2_takeSpans 50 = .ok (.iadd, 1) := by decide +kernel
theorem dX2_takeSpans_51 : decode cX2_takeSpans 51 = .ok (.putfield 53, 3) := by decide +kernel
theorem dX2_takeSpans_54 : decode cX2_takeSpans 54 = .ok (.aload_n 0, 1) := by decide +kernel
theorem dX2_takeSpans_55 : decode cX2_takeSpans 55 = .ok (.getfield 85, 3) := by decide +kernel
theorem dX2_takeSpans_58 : decode cX2_takeSpans 58 = .ok (.ifCond .eq 40, 3) := by decide +kernel
theorem dX2_takeSpans_61 : decode cX2_takeSpans 61 = .ok (.aload_n 0, 1) := by decide +kernel
theorem dX2_takeSpans_62 : decode cX2_takeSpans 62 = .ok (.iload_n 1, 1) := by decide +kernel
theorem dX2_takeSpans_63 : decode cX2_takeSpans 63 = .ok (.aload_n 0, 1) := by decide +kernel
theorem dX2_takeSpans_64 : decode cX2_takeSpans 64 = .ok (.getfield 20, 3) := by decide +kernel
theorem dX2_takeSpans_67 : decode cX2_takeSpans 67 = .ok (.iload_n 1, 1) := by decide +kernel
theorem dX2_takeSpans_68 : decode cX2_takeSpans 68 = .ok (.aaload, 1) := by decide +kernel
theorem dX2_takeSpans_69 : decode cX2_takeSpans 69 = .ok (.getfield 131, 3) := by decide +kernel
theorem dX2_takeSpans_72 : decode cX2_takeSpans 72 = .ok (.iload_n 2, 1) := by decide +kernel
theorem dX2_takeSpans_73 : decode cX2_takeSpans 73 = .ok (.iaload, 1) := by decide +kernel
theorem dX2_takeSpans_74 : decode cX2_takeSpans 74 = .ok (.aload_n 0, 1) := by decide +kernel
theorem dX2_takeSpans_75 : decode cX2_takeSpans 75 = .ok (.getfield 20, 3) := by decide +kernel
theorem dX2_takeSpans_78 : decode cX2_takeSpans 78 = .ok (.iload_n 1, 1) := by decide +kernel
theorem dX2_takeSpans_79 : decode cX2_takeSpans 79 = .ok (.aaload, 1) := by decide +kernel
theorem dX2_takeSpans_80 : decode cX2_takeSpans 80 = .ok (.getfield 134, 3) := by decide +kernel
theorem dX2_takeSpans_83 : decode cX2_takeSpans 83 = .ok (.iload_n 2, 1) := by decide +kernel
theorem dX2_takeSpans_84 : decode cX2_takeSpans 84 = .ok (.iaload, 1) := by decide +kernel
theorem dX2_takeSpans_85 : decode cX2_takeSpans 85 = .ok (.invokevirtual 137, 3) := by decide +kernel
theorem dX2_takeSpans_88 : decode cX2_takeSpans 88 = .ok (.ifCond .eq 10, 3) := by decide +kernel
theorem dX2_takeSpans_91 : decode cX2_takeSpans 91 = .ok (.aload_n 0, 1) := by decide +kernel
theorem dX2_takeSpans_92 : decode cX2_takeSpans 92 = .ok (.iload_n 1, 1) := by decide +kernel
theorem dX2_takeSpans_93 : decode cX2_takeSpans 93 = .ok (.iconst 1, 1) := by decide +kernel
theorem dX2_takeSpans_94 : decode cX2_takeSpans 94 = .ok (.iadd, 1) := by decide +kernel
theorem dX2_takeSpans_95 : decode cX2_takeSpans 95 = .ok (.invokevirtual 121, 3) := by decide +kernel
theorem dX2_takeSpans_98 : decode cX2_takeSpans 98 = .ok (.aload_n 0, 1) := by decide +kernel
theorem dX2_takeSpans_99 : decode cX2_takeSpans 99 = .ok (.getfield 56, 3) := by decide +kernel
theorem dX2_takeSpans_102 : decode cX2_takeSpans 102 = .ok (.ifCond .ne 17, 3) := by decide +kernel
theorem dX2_takeSpans_105 : decode cX2_takeSpans 105 = .ok (.aload_n 0, 1) := by decide +kernel
theorem dX2_takeSpans_106 : decode cX2_takeSpans 106 = .ok (.getfield 115, 3) := by decide +kernel
theorem dX2_takeSpans_109 : decode cX2_takeSpans 109 = .ok (.ifCond .eq 11, 3) := by decide +kernel
theorem dX2_takeSpans_112 : decode cX2_takeSpans 112 = .ok (.aload_n 0, 1) := by decide +kernel
theorem dX2_takeSpans_113 : decode cX2_takeSpans 113 = .ok (.getfield 118, 3) := by decide +kernel
theorem dX2_takeSpans_116 : decode cX2_takeSpans 116 = .ok (.ifCond .eq 4, 3) := by decide +kernel
theorem dX2_takeSpans_119 : decode cX2_takeSpans 119 = .ok (.return_, 1) := by decide +kernel
theorem dX2_takeSpans_120 : decode cX2_takeSpans 120 = .ok (.iinc 2 1, 3) := by decide +kernel
theorem dX2_takeSpans_123 : decode cX2_takeSpans 123 = .ok (.goto (-108), 3) := by decide +kernel
theorem dX2_takeSpans_126 : decode cX2_takeSpans 126 = .ok (.return_, 1) := by decide +kernel
theorem dX2_narrow_0 : decode cX2_narrow 0 = .ok (.iload_n 2, 1) := by decide +kernel
theorem dX2_narrow_1 : decode cX2_narrow 1 = .ok (.aload_n 0, 1) := by decide +kernel
theorem dX2_narrow_2 : decode cX2_narrow 2 = .ok (.getfield 37, 3) := by decide +kernel
theorem dX2_narrow_5 : decode cX2_narrow 5 = .ok (.iload_n 1, 1) := by decide +kernel
theorem dX2_narrow_6 : decode cX2_narrow 6 = .ok (.aaload, 1) := by decide +kernel
theorem dX2_narrow_7 : decode cX2_narrow 7 = .ok (.iload_n 1, 1) := by decide +kernel
theorem dX2_narrow_8 : decode cX2_narrow 8 = .ok (.iaload, 1) := by decide +kernel
theorem dX2_narrow_9 : decode cX2_narrow 9 = .ok (.invokestatic 112, 3) := by decide +kernel
theorem dX2_narrow_12 : decode cX2_narrow 12 = .ok (.istore 4, 2) := by decide +kernel
theorem dX2_narrow_14 : decode cX2_narrow 14 = .ok (.iload_n 3, 1) := by decide +kernel
theorem dX2_narrow_15 : decode cX2_narrow 15 = .ok (.aload_n 0, 1) := by decide +kernel
theorem dX2_narrow_16 : decode cX2_narrow 16 = .ok (.getfield 40, 3) := by decide +kernel
theorem dX2_narrow_19 : decode cX2_narrow 19 = .ok (.iload_n 1, 1) := by decide +kernel
theorem dX2_narrow_20 : decode cX2_narrow 20 = .ok (.aaload, 1) := by decide +kernel
theorem dX2_narrow_21 : decode cX2_narrow 21 = .ok (.iload_n 1, 1) := by decide +kernel
theorem dX2_narrow_22 : decode cX2_narrow 22 = .ok (.iaload, 1) := by decide +kernel
theorem dX2_narrow_23 : decode cX2_narrow 23 = .ok (.invokestatic 43, 3) := by decide +kernel
theorem dX2_narrow_26 : decode cX2_narrow 26 = .ok (.istore 5, 2) := by decide +kernel
theorem dX2_narrow_28 : decode cX2_narrow 28 = .ok (.iload 4, 2) := by decide +kernel
theorem dX2_narrow_30 : decode cX2_narrow 30 = .ok (.iload 5, 2) := by decide +kernel
theorem dX2_narrow_32 : decode cX2_narrow 32 = .ok (.if_icmp .le 5, 3) := by decide +kernel
theorem dX2_narrow_35 : decode cX2_narrow 35 = .ok (.iconst 0, 1) := by decide +kernel
theorem dX2_narrow_36 : decode cX2_narrow 36 = .ok (.ireturn, 1) := by decide +kernel
theorem dX2_narrow_37 : decode cX2_narrow 37 = .ok (.iconst 0, 1) := by decide +kernel
theorem dX2_narrow_38 : decode cX2_narrow 38 = .ok (.istore 6, 2) := by decide +kernel
theorem dX2_narrow_40 : decode cX2_narrow 40 = .ok (.iload 6, 2) := by decide +kernel
theorem dX2_narrow_42 : decode cX2_narrow 42 = .ok (.aload_n 0, 1) := by decide +kernel
theorem dX2_narrow_43 : decode cX2_narrow 43 = .ok (.getfield 49, 3) := by decide +kernel
theorem dX2_narrow_46 : decode cX2_narrow 46 = .ok (.if_icmp .ge 79, 3) := by decide +kernel
theorem dX2_narrow_49 : decode cX2_narrow 49 = .ok (.aload_n 0, 1) := by decide +kernel
theorem dX2_narrow_50 : decode cX2_narrow 50 = .ok (.getfield 37, 3) := by decide +kernel
theorem dX2_narrow_53 : decode cX2_narrow 53 = .ok (.iload_n 1, 1) := by decide +kernel
theorem dX2_narrow_54 : decode cX2_narrow 54 = .ok (.iconst 1, 1) := by decide +kernel
theorem dX2_narrow_55 : decode cX2_narrow 55 = .ok (.iadd, 1) := by decide +kernel
theorem dX2_narrow_56 : decode cX2_narrow 56 = .ok (.aaload, 1) := by decide +kernel
theorem dX2_narrow_57 : decode cX2_narrow 57 = .ok (.iload 6, 2) := by decide +kernel
theorem dX2_narrow_59 : decode cX2_narrow 59 = .ok (.aload_n 0, 1) := by decide +kernel
theorem dX2_narrow_60 : decode cX2_narrow 60 = .ok (.getfield 37, 3) := by decide +kernel
theorem dX2_narrow_63 : decode cX2_narrow 63 = .ok (.iload_n 1, 1) := by decide +kernel
theorem dX2_narrow_64 : decode cX2_narrow 64 = .ok (.aaload, 1) := by decide +kernel
theorem dX2_narrow_65 : decode cX2_narrow 65 = .ok (.iload 6, 2) := by decide +kernel
theorem dX2_narrow_67 : decode cX2_narrow 67 = .ok (.iaload, 1) := by decide +kernel
theorem dX2_narrow_68 : decode cX2_narrow 68 = .ok (.iload 4, 2) := by decide +kernel
theorem dX2_narrow_70 : decode cX2_narrow 70 = .ok (.aload_n 0, 1) := by decide +kernel
theorem dX2_narrow_71 : decode cX2_narrow 71 = .ok (.getfield 34, 3) := by decide +kernel
theorem dX2_narrow_74 : decode cX2_narrow 74 = .ok (.iload 6, 2) := by decide +kernel
theorem dX2_narrow_76 : decode cX2_narrow 76 = .ok (.aaload, 1) := by decide +kernel
theorem dX2_narrow_77 : decode cX2_narrow 77 = .ok (.iload_n 1, 1) := by decide +kernel
theorem dX2_narrow_78 : decode cX2_narrow 78 = .ok (.iaload, 1) := by decide +kernel
theorem dX2_narrow_79 : decode cX2_narrow 79 = .ok (.isub, 1) := by decide +kernel
theorem dX2_narrow_80 : decode cX2_narrow 80 = .ok (.invokestatic 112, 3) := by decide +kernel
theorem dX2_narrow_83 : decode cX2_narrow 83 = .ok (.iastore, 1) := by decide +kernel
theorem dX2_narrow_84 : decode cX2_narrow 84 = .ok (.aload_n 0, 1) := by decide +kernel
theorem dX2_narrow_85 : decode cX2_narrow 85 = .ok (.getfield 40, 3) := by decide +kernel
theorem dX2_narrow_88 : decode cX2_narrow 88 = .ok (.iload_n 1, 1) := by decide +kernel
theorem dX2_narrow_89 : decode cX2_narrow 89 = .ok (.iconst 1, 1) := by decide +kernel
theorem dX2_narrow_90 : decode cX2_narrow 90 = .ok (.iadd, 1) := by decide +kernel
theorem dX2_narrow_91 : decode cX2_narrow 91 = .ok (.aaload, 1) := by decide +kernel
theorem dX2_narrow_92 : decode cX2_narrow 92 = .ok (.iload 6, 2) := by decide +kernel
theorem dX2_narrow_94 : decode cX2_narrow 94 = .ok (.aload_n 0, 1) := by decide +kernel
theorem dX2_narrow_95 : decode cX2_narrow 95 = .ok (.getfield 40, 3) := by decide +kernel
theorem dX2_narrow_98 : decode cX2_narrow 98 = .ok (.iload_n 1, 1) := by decide +kernel
theorem dX2_narrow_99 : decode cX2_narrow 99 = .ok (.aaload, 1) := by decide +kernel
theorem dX2_narrow_100 : decode cX2_narrow 100 = .ok (.iload 6, 2) := by decide +kernel
theorem dX2_narrow_102 : decode cX2_narrow 102 = .ok (.iaload, 1) := by decide +kernel
theorem dX2_narrow_103 : decode cX2_narrow 103 = .ok (.iload 5, 2) := by decide +kernel
theorem dX2_narrow_105 : decode cX2_narrow 105 = .ok (.aload_n 0, 1) := by decide +kernel
theorem dX2_narrow_106 : decode cX2_narrow 106 = .ok (.getfield 34, 3) := by decide +kernel
theorem dX2_narrow_109 : decode cX2_narrow 109 = .ok (.iload_n 1, 1) := by decide +kernel
theorem dX2_narrow_110 : decode cX2_narrow 110 = .ok (.aaload, 1) := by decide +kernel
theorem dX2_narrow_111 : decode cX2_narrow 111 = .ok (.iload 6, 2) := by decide +kernel
theorem dX2_narrow_113 : decode cX2_narrow 113 = .ok (.iaload, 1) := by decide +kernel
theorem dX2_narrow_114 : decode cX2_narrow 114 = .ok (.iadd, 1) := by decide +kernel
theorem dX2_narrow_115 : decode cX2_narrow 115 = .ok (.invokestatic 43, 3) := by decide +kernel
theorem dX2_narrow_118 : decode cX2_narrow 118 = .ok (.iastore, 1) := by decide +kernel
theorem dX2_narrow_119 : decode cX2_narrow 119 = .ok (.iinc 6 1, 3) := by decide +kernel
theorem dX2_narrow_122 : decode cX2_narrow 122 = .ok (.goto (-82), 3) := by decide +kernel
theorem dX2_narrow_125 : decode cX2_narrow 125 = .ok (.iconst 1, 1) := by decide +kernel
theorem dX2_narrow_126 : decode cX2_narrow 126 = .ok (.ireturn, 1) := by decide +kernel
theorem dX2_noteWay_0 : decode cX2_noteWay 0 = .ok (.iconst 0, 1) := by decide +kernel
theorem dX2_noteWay_1 : decode cX2_noteWay 1 = .ok (.istore_n 1, 1) := by decide +kernel
theorem dX2_noteWay_2 : decode cX2_noteWay 2 = .ok (.iload_n 1, 1) := by decide +kernel
theorem dX2_noteWay_3 : decode cX2_noteWay 3 = .ok (.aload_n 0, 1) := by decide +kernel
theorem dX2_noteWay_4 : decode cX2_noteWay 4 = .ok (.getfield 49, 3) := by decide +kernel
theorem dX2_noteWay_7 : decode cX2_noteWay 7 = .ok (.if_icmp .ge 87, 3) := by decide +kernel
theorem dX2_noteWay_10 : decode cX2_noteWay 10 = .ok (.aload_n 0, 1) := by decide +kernel
theorem dX2_noteWay_11 : decode cX2_noteWay 11 = .ok (.getfield 37, 3) := by decide +kernel
theorem dX2_noteWay_14 : decode cX2_noteWay 14 = .ok (.aload_n 0, 1) := by decide +kernel
theorem dX2_noteWay_15 : decode cX2_noteWay 15 = .ok (.getfield 49, 3) := by decide +kernel
theorem dX2_noteWay_18 : decode cX2_noteWay 18 = .ok (.aaload, 1) := by decide +kernel
theorem dX2_noteWay_19 : decode cX2_noteWay 19 = .ok (.iload_n 1, 1) := by decide +kernel
theorem dX2_noteWay_20 : decode cX2_noteWay 20 = .ok (.iaload, 1) := by decide +kernel
theorem dX2_noteWay_21 : decode cX2_noteWay 21 = .ok (.istore_n 2, 1) := by decide +kernel
theorem dX2_noteWay_22 : decode cX2_noteWay 22 = .ok (.aload_n 0, 1) := by decide +kernel
theorem dX2_noteWay_23 : decode cX2_noteWay 23 = .ok (.getfield 40, 3) := by decide +kernel
theorem dX2_noteWay_26 : decode cX2_noteWay 26 = .ok (.aload_n 0, 1) := by decide +kernel
theorem dX2_noteWay_27 : decode cX2_noteWay 27 = .ok (.getfield 49, 3) := by decide +kernel
theorem dX2_noteWay_30 : decode cX2_noteWay 30 = .ok (.aaload, 1) := by decide +kernel
theorem dX2_noteWay_31 : decode cX2_noteWay 31 = .ok (.iload_n 1, 1) := by decide +kernel
theorem dX2_noteWay_32 : decode cX2_noteWay 32 = .ok (.iaload, 1) := by decide +kernel
theorem dX2_noteWay_33 : decode cX2_noteWay 33 = .ok (.istore_n 3, 1) := by decide +kernel
theorem dX2_noteWay_34 : decode cX2_noteWay 34 = .ok (.aload_n 0, 1) := by decide +kernel
theorem dX2_noteWay_35 : decode cX2_noteWay 35 = .ok (.getfield 9, 3) := by decide +kernel
theorem dX2_noteWay_38 : decode cX2_noteWay 38 = .ok (.iload_n 1, 1) := by decide +kernel
theorem dX2_noteWay_39 : decode cX2_noteWay 39 = .ok (.aload_n 0, 1) := by decide +kernel
theorem dX2_noteWay_40 : decode cX2_noteWay 40 = .ok (.getfield 118, 3) := by decide +kernel
theorem dX2_noteWay_43 : decode cX2_noteWay 43 = .ok (.ifCond .eq 16, 3) := by decide +kernel
theorem dX2_noteWay_46 : decode cX2_noteWay 46 = .ok (.aload_n 0, 1) := by decide +kernel
theorem dX2_noteWay_47 : decode cX2_noteWay 47 = .ok (.getfield 9, 3) := by decide +kernel
theorem dX2_noteWay_50 : decode cX2_noteWay 50 = .ok (.iload_n 1, 1) := by decide +kernel
theorem dX2_noteWay_51 : decode cX2_noteWay 51 = .ok (.iaload, 1) := by decide +kernel
theorem dX2_noteWay_52 : decode cX2_noteWay 52 = .ok (.iload_n 2, 1) := by decide +kernel
theorem dX2_noteWay_53 : decode cX2_noteWay 53 = .ok (.invokestatic 43, 3) := by decide +kernel
theorem dX2_noteWay_56 : decode cX2_noteWay 56 = .ok (.goto 4, 3) := by decide +kernel
theorem dX2_noteWay_59 : decode cX2_noteWay 59 = .ok (.iload_n 2, 1) := by decide +kernel
theorem dX2_noteWay_60 : decode cX2_noteWay 60 = .ok (.iastore, 1) := by decide +kernel
theorem dX2_noteWay_61 : decode cX2_noteWay 61 = .ok (.aload_n 0, 1) := by decide +kernel
theorem dX2_noteWay_62 : decode cX2_noteWay 62 = .ok (.getfield 15, 3) := by decide +kernel
theorem dX2_noteWay_65 : decode cX2_noteWay 65 = .ok (.iload_n 1, 1) := by decide +kernel
theorem dX2_noteWay_66 : decode cX2_noteWay 66 = .ok (.aload_n 0, 1) := by decide +kernel
theorem dX2_noteWay_67 : decode cX2_noteWay 67 = .ok (.getfield 118, 3) := by decide +kernel
theorem dX2_noteWay_70 : decode cX2_noteWay 70 = .ok (.ifCond .eq 16, 3) := by decide +kernel
theorem dX2_noteWay_73 : decode cX2_noteWay 73 = .ok (.aload_n 0, 1) := by decide +kernel
theorem dX2_noteWay_74 : decode cX2_noteWay 74 = .ok (.getfield 15, 3) := by decide +kernel
theorem dX2_noteWay_77 : decode cX2_noteWay 77 = .ok (.iload_n 1, 1) := by decide +kernel
theorem dX2_noteWay_78 : decode cX2_noteWay 78 = .ok (.iaload, 1) := by decide +kernel
theorem dX2_noteWay_79 : decode cX2_noteWay 79 = .ok (.iload_n 3, 1) := by decide +kernel
theorem dX2_noteWay_80 : decode cX2_noteWay 80 = .ok (.invokestatic 112, 3) := by decide +kernel
theorem dX2_noteWay_83 : decode cX2_noteWay 83 = .ok (.goto 4, 3) := by decide +kernel
theorem dX2_noteWay_86 : decode cX2_noteWay 86 = .ok (.iload_n 3, 1) := by decide +kernel
theorem dX2_noteWay_87 : decode cX2_noteWay 87 = .ok (.iastore, 1) := by decide +kernel
theorem dX2_noteWay_88 : decode cX2_noteWay 88 = .ok (.iinc 1 1, 3) := by decide +kernel
theorem dX2_noteWay_91 : decode cX2_noteWay 91 = .ok (.goto (-89), 3) := by decide +kernel
theorem dX2_noteWay_94 : decode cX2_noteWay 94 = .ok (.aload_n 0, 1) := by decide +kernel
theorem dX2_noteWay_95 : decode cX2_noteWay 95 = .ok (.iconst 1, 1) := by decide +kernel
theorem dX2_noteWay_96 : decode cX2_noteWay 96 = .ok (.putfield 118, 3) := by decide +kernel
theorem dX2_noteWay_99 : decode cX2_noteWay 99 = .ok (.return_, 1) := by decide +kernel
theorem dX3_init_0 : decode cX3_init 0 = .ok (.aload_n 0, 1) := by decide +kernel
theorem dX3_init_1 : decode cX3_init 1 = .ok (.invokespecial 3, 3) := by decide +kernel
theorem dX3_init_4 : decode cX3_init 4 = .ok (.aload_n 0, 1) := by decide +kernel
theorem dX3_init_5 : decode cX3_init 5 = .ok (.sipush 924, 3) := by decide +kernel
theorem dX3_init_8 : decode cX3_init 8 = .ok (.newarray .int, 2) := by decide +kernel
theorem dX3_init_10 : decode cX3_init 10 = .ok (.putfield 11, 3) := by decide +kernel
theorem dX3_init_13 : decode cX3_init 13 = .ok (.aload_n 0, 1) := by decide +kernel
theorem dX3_init_14 : decode cX3_init 14 = .ok (.bipush 12, 2) := by decide +kernel
theorem dX3_init_16 : decode cX3_init 16 = .ok (.newarray .int, 2) := by decide +kernel
theorem dX3_init_18 : decode cX3_init 18 = .ok (.putfield 15, 3) := by decide +kernel
theorem dX3_init_21 : decode cX3_init 21 = .ok (.aload_n 0, 1) := by decide +kernel
theorem dX3_init_22 : decode cX3_init 22 = .ok (.bipush 12, 2) := by decide +kernel
theorem dX3_init_24 : decode cX3_init 24 = .ok (.newarray .int, 2) := by decide +kernel
theorem dX3_init_26 : decode cX3_init 26 = .ok (.putfield 18, 3) := by decide +kernel
theorem dX3_init_29 : decode cX3_init 29 = .ok (.aload_n 0, 1) := by decide +kernel
theorem dX3_init_30 : decode cX3_init 30 = .ok (.bipush 12, 2) := by decide +kernel
theorem dX3_init_32 : decode cX3_init 32 = .ok (.newarray .int, 2) := by decide +kernel
theorem dX3_init_34 : decode cX3_init 34 = .ok (.putfield 21, 3) := by decide +kernel
theorem dX3_init_37 : decode cX3_init 37 = .ok (.aload_n 0, 1) := by decide +kernel
theorem dX3_init_38 : decode cX3_init 38 = .ok (.sipush 924, 3) := by decide +kernel
theorem dX3_init_41 : decode cX3_init 41 = .ok (.newarray .int, 2) := by decide +kernel
theorem dX3_init_43 : decode cX3_init 43 = .ok (.putfield 24, 3) := by decide +kernel
theorem dX3_init_46 : decode cX3_init 46 = .ok (.return_, 1) := by decide +kernel
theorem dX3_begin_0 : decode cX3_begin 0 = .ok (.aload_n 0, 1) := by decide +kernel
theorem dX3_begin_1 : decode cX3_begin 1 = .ok (.iconst 0, 1) := by decide +kernel
theorem dX3_begin_2 : decode cX3_begin 2 = .ok (.putfield 27, 3) := by decide +kernel
theorem dX3_begin_5 : decode cX3_begin 5 = .ok (.aload_n 0, 1) := by decide +kernel
theorem dX3_begin_6 : decode cX3_begin 6 = .ok (.iconst 0, 1) := by decide +kernel
theorem dX3_begin_7 : decode cX3_begin 7 = .ok (.putfield 31, 3) := by decide +kernel
theorem dX3_begin_10 : decode cX3_begin 10 = .ok (.aload_n 0, 1) := by decide +kernel
theorem dX3_begin_11 : decode cX3_begin 11 = .ok (.iconst 0, 1) := by decide +kernel
theorem dX3_begin_12 : decode cX3_begin 12 = .ok (.putfield 34, 3) := by decide +kernel
theorem dX3_begin_15 : decode cX3_begin 15 = .ok (.return_, 1) := by decide +kernel
theorem dX3_addGroup_0 : decode cX3_addGroup 0 = .ok (.aload_n 0, 1) := by decide +kernel
theorem dX3_addGroup_1 : decode cX3_addGroup 1 = .ok (.getfield 27, 3) := by decide +kernel
theorem dX3_addGroup_4 : decode cX3_addGroup 4 = .ok (.bipush 12, 2) := by decide +kernel
theorem dX3_addGroup_6 : decode cX3_addGroup 6 = .ok (.if_icmp .ge 43, 3) := by decide +kernel
theorem dX3_addGroup_9 : decode cX3_addGroup 9 = .ok (.aload_n 0, 1) := by decide +kernel
theorem dX3_addGroup_10 : decode cX3_addGroup 10 = .ok (.getfield 15, 3) := by decide +kernel
theorem dX3_addGroup_13 : decode cX3_addGroup 13 = .ok (.aload_n 0, 1) := by decide +kernel
theorem dX3_addGroup_14 : decode cX3_addGroup 14 = .ok (.getfield 27, 3) := by decide +kernel
theorem dX3_addGroup_17 : decode cX3_addGroup 17 = .ok (.iload_n 1, 1) := by decide +kernel
theorem dX3_addGroup_18 : decode cX3_addGroup 18 = .ok (.iastore, 1) := by decide +kernel
theorem dX3_addGroup_19 : decode cX3_addGroup 19 = .ok (.aload_n 0, 1) := by decide +kernel
theorem dX3_addGroup_20 : decode cX3_addGroup 20 = .ok (.getfield 18, 3) := by decide +kernel
theorem dX3_addGroup_23 : decode cX3_addGroup 23 = .ok (.aload_n 0, 1) := by decide +kernel
theorem dX3_addGroup_24 : decode cX3_addGroup 24 = .ok (.getfield 27, 3) := by decide +kernel
theorem dX3_addGroup_27 : decode cX3_addGroup 27 = .ok (.iload_n 2, 1) := by decide +kernel
theorem dX3_addGroup_28 : decode cX3_addGroup 28 = .ok (.iastore, 1) := by decide +kernel
theorem dX3_addGroup_29 : decode cX3_addGroup 29 = .ok (.aload_n 0, 1) := by decide +kernel
theorem dX3_addGroup_30 : decode cX3_addGroup 30 = .ok (.getfield 21, 3) := by decide +kernel
theorem dX3_addGroup_33 : decode cX3_addGroup 33 = .ok (.aload_n 0, 1) := by decide +kernel
theorem dX3_addGroup_34 : decode cX3_addGroup 34 = .ok (.getfield 27, 3) := by decide +kernel
theorem dX3_addGroup_37 : decode cX3_addGroup 37 = .ok (.iload_n 3, 1) := by decide +kernel
theorem dX3_addGroup_38 : decode cX3_addGroup 38 = .ok (.iastore, 1) := by decide +kernel
theorem dX3_addGroup_39 : decode cX3_addGroup 39 = .ok (.aload_n 0, 1) := by decide +kernel
theorem dX3_addGroup_40 : decode cX3_addGroup 40 = .ok (.dup, 1) := by decide +kernel
theorem dX3_addGroup_41 : decode cX3_addGroup 41 = .ok (.getfield 27, 3) := by decide +kernel
theorem dX3_addGroup_44 : decode cX3_addGroup 44 = .ok (.iconst 1, 1) := by decide +kernel
theorem dX3_addGroup_45 : decode cX3_addGroup 45 = .ok (.iadd, 1) := by decide +kernel
theorem dX3_addGroup_46 : decode cX3_addGroup 46 = .ok (.putfield 27, 3) := by decide +kernel
theorem dX3_addGroup_49 : decode cX3_addGroup 49 = .ok (.return_, 1) := by decide +kernel
theorem dX3_weightOf_0 : decode cX3_weightOf 0 = .ok (.iconst 0, 1) := by decide +kernel
theorem dX3_weightOf_1 : decode cX3_weightOf 1 = .ok (.istore_n 2, 1) := by decide +kernel
theorem dX3_weightOf_2 : decode cX3_weightOf 2 = .ok (.iconst 0, 1) := by decide +kernel
theorem dX3_weightOf_3 : decode cX3_weightOf 3 = .ok (.istore_n 3, 1) := by decide +kernel
theorem dX3_weightOf_4 : decode cX3_weightOf 4 = .ok (.iload_n 3, 1) := by decide +kernel
theorem dX3_weightOf_5 : decode cX3_weightOf 5 = .ok (.aload_n 0, 1) := by decide +kernel
theorem dX3_weightOf_6 : decode cX3_weightOf 6 = .ok (.getfield 27, 3) := by decide +kernel
theorem dX3_weightOf_9 : decode cX3_weightOf 9 = .ok (.if_icmp .ge 30, 3) := by decide +kernel
theorem dX3_weightOf_12 : decode cX3_weightOf 12 = .ok (.iload_n 2, 1) := by decide +kernel
theorem dX3_weightOf_13 : decode cX3_weightOf 13 = .ok (.iload_n 1, 1) := by decide +kernel
theorem dX3_weightOf_14 : decode cX3_weightOf 14 = .ok (.iload_n 3, 1) := by decide +kernel
theorem dX3_weightOf_15 : decode cX3_weightOf 15 = .ok (.ishr, 1) := by decide +kernel
theorem dX3_weightOf_16 : decode cX3_weightOf 16 = .ok (.iconst 1, 1) := by decide +kernel
theorem dX3_weightOf_17 : decode cX3_weightOf 17 = .ok (.iand, 1) := by decide +kernel
theorem dX3_weightOf_18 : decode cX3_weightOf 18 = .ok (.ifCond .eq 12, 3) := by decide +kernel
theorem dX3_weightOf_21 : decode cX3_weightOf 21 = .ok (.aload_n 0, 1) := by decide +kernel
theorem dX3_weightOf_22 : decode cX3_weightOf 22 = .ok (.getfield 21, 3) := by decide +kernel
theorem dX3_weightOf_25 : decode cX3_weightOf 25 = .ok (.iload_n 3, 1) := by decide +kernel
theorem dX3_weightOf_26 : decode cX3_weightOf 26 = .ok (.iaload, 1) := by decide +kernel
theorem dX3_weightOf_27 : decode cX3_weightOf 27 = .ok (.goto 4, 3) := by decide +kernel
theorem dX3_weightOf_30 : decode cX3_weightOf 30 = .ok (.iconst 0, 1) := by decide +kernel
theorem dX3_weightOf_31 : decode cX3_weightOf 31 = .ok (.iadd, 1) := by decide +kernel
theorem dX3_weightOf_32 : decode cX3_weightOf 32 = .ok (.istore_n 2, 1) := by decide +kernel
theorem dX3_weightOf_33 : decode cX3_weightOf 33 = .ok (.iinc 3 1, 3) := by decide +kernel
theorem dX3_weightOf_36 : decode cX3_weightOf 36 = .ok (.goto (-32), 3) := by decide +kernel
theorem dX3_weightOf_39 : decode cX3_weightOf 39 = .ok (.iload_n 2, 1) := by decide +kernel
theorem dX3_weightOf_40 : decode cX3_weightOf 40 = .ok (.ireturn, 1) := by decide +kernel
theorem dX3_sayingsOf_0 : decode cX3_sayingsOf 0 = .ok (.iconst 0, 1) := by decide +kernel
theorem dX3_sayingsOf_1 : decode cX3_sayingsOf 1 = .ok (.istore_n 2, 1) := by decide +kernel
theorem dX3_sayingsOf_2 : decode cX3_sayingsOf 2 = .ok (.iconst 0, 1) := by decide +kernel
theorem dX3_sayingsOf_3 : decode cX3_sayingsOf 3 = .ok (.istore_n 3, 1) := by decide +kernel
theorem dX3_sayingsOf_4 : decode cX3_sayingsOf 4 = .ok (.iload_n 3, 1) := by decide +kernel
theorem dX3_sayingsOf_5 : decode cX3_sayingsOf 5 = .ok (.aload_n 0, 1) := by decide +kernel
theorem dX3_sayingsOf_6 : decode cX3_sayingsOf 6 = .ok (.getfield 27, 3) := by decide +kernel
theorem dX3_sayingsOf_9 : decode cX3_sayingsOf 9 = .ok (.if_icmp .ge 30, 3) := by decide +kernel
theorem dX3_sayingsOf_12 : decode cX3_sayingsOf 12 = .ok (.iload_n 2, 1) := by decide +kernel
theorem dX3_sayingsOf_13 : decode cX3_sayingsOf 13 = .ok (.iload_n 1, 1) := by decide +kernel
theorem dX3_sayingsOf_14 : decode cX3_sayingsOf 14 = .ok (.iload_n 3, 1) := by decide +kernel
theorem dX3_sayingsOf_15 : decode cX3_sayingsOf 15 = .ok (.ishr, 1) := by decide +kernel
theorem dX3_sayingsOf_16 : decode cX3_sayingsOf 16 = .ok (.iconst 1, 1) := by decide +kernel
theorem dX3_sayingsOf_17 : decode cX3_sayingsOf 17 = .ok (.iand, 1) := by decide +kernel
theorem dX3_sayingsOf_18 : decode cX3_sayingsOf 18 = .ok (.ifCond .eq 12, 3) := by decide +kernel
theorem dX3_sayingsOf_21 : decode cX3_sayingsOf 21 = .ok (.aload_n 0, 1) := by decide +kernel
theorem dX3_sayingsOf_22 : decode cX3_sayingsOf 22 = .ok (.getfield 18, 3) := by decide +kernel
theorem dX3_sayingsOf_25 : decode cX3_sayingsOf 25 = .ok (.iload_n 3, 1) := by decide +kernel
theorem dX3_sayingsOf_26 : decode cX3_sayingsOf 26 = .ok (.iaload, 1) := by decide +kernel
theorem dX3_sayingsOf_27 : decode cX3_sayingsOf 27 = .ok (.goto 4, 3) := by decide +kernel
theorem dX3_sayingsOf_30 : decode cX3_sayingsOf 30 = .ok (.iconst 0, 1) := by decide +kernel
theorem dX3_sayingsOf_31 : decode cX3_sayingsOf 31 = .ok (.ior, 1) := by decide +kernel
theorem dX3_sayingsOf_32 : decode cX3_sayingsOf 32 = .ok (.istore_n 2, 1) := by decide +kernel
theorem dX3_sayingsOf_33 : decode cX3_sayingsOf 33 = .ok (.iinc 3 1, 3) := by decide +kernel
theorem dX3_sayingsOf_36 : decode cX3_sayingsOf 36 = .ok (.goto (-32), 3) := by decide +kernel
theorem dX3_sayingsOf_39 : decode cX3_sayingsOf 39 = .ok (.iload_n 2, 1) := by decide +kernel
theorem dX3_sayingsOf_40 : decode cX3_sayingsOf 40 = .ok (.ireturn, 1) := by decide +kernel
theorem dX3_rootsOf_0 : decode cX3_rootsOf 0 = .ok (.iconst 0, 1) := by decide +kernel
theorem dX3_rootsOf_1 : decode cX3_rootsOf 1 = .ok (.istore_n 2, 1) := by decide +kernel
theorem dX3_rootsOf_2 : decode cX3_rootsOf 2 = .ok (.iconst 0, 1) := by decide +kernel
theorem dX3_rootsOf_3 : decode cX3_rootsOf 3 = .ok (.istore_n 3, 1) := by decide +kernel
theorem dX3_rootsOf_4 : decode cX3_rootsOf 4 = .ok (.iload_n 3, 1) := by decide +kernel
theorem dX3_rootsOf_5 : decode cX3_rootsOf 5 = .ok (.aload_n 0, 1) := by decide +kernel
theorem dX3_rootsOf_6 : decode cX3_rootsOf 6 = .ok (.getfield 27, 3) := by decide +kernel
theorem dX3_rootsOf_9 : decode cX3_rootsOf 9 = .ok (.if_icmp .ge 32, 3) := by decide +kernel
theorem dX3_rootsOf_12 : decode cX3_rootsOf 12 = .ok (.iload_n 2, 1) := by decide +kernel
theorem dX3_rootsOf_13 : decode cX3_rootsOf 13 = .ok (.iload_n 1, 1) := by decide +kernel
theorem dX3_rootsOf_14 : decode cX3_rootsOf 14 = .ok (.iload_n 3, 1) := by decide +kernel
theorem dX3_rootsOf_15 : decode cX3_rootsOf 15 = .ok (.ishr, 1) := by decide +kernel
theorem dX3_rootsOf_16 : decode cX3_rootsOf 16 = .ok (.iconst 1, 1) := by decide +kernel
theorem dX3_rootsOf_17 : decode cX3_rootsOf 17 = .ok (.iand, 1) := by decide +kernel
theorem dX3_rootsOf_18 : decode cX3_rootsOf 18 = .ok (.ifCond .eq 14, 3) := by decide +kernel
theorem dX3_rootsOf_21 : decode cX3_rootsOf 21 = .ok (.iconst 1, 1) := by decide +kernel
theorem dX3_rootsOf_22 : decode cX3_rootsOf 22 = .ok (.aload_n 0, 1) := by decide +kernel
theorem dX3_rootsOf_23 : decode cX3_rootsOf 23 = .ok (.getfield 15, 3) := by decide +kernel
theorem dX3_rootsOf_26 : decode cX3_rootsOf 26 = .ok (.iload_n 3, 1) := by decide +kernel
theorem dX3_rootsOf_27 : decode cX3_rootsOf 27 = .ok (.iaload, 1) := by decide +kernel
theorem dX3_rootsOf_28 : decode cX3_rootsOf 28 = .ok (.ishl, 1) := by decide +kernel
theorem dX3_rootsOf_29 : decode cX3_rootsOf 29 = .ok (.goto 4, 3) := by decide +kernel
theorem dX3_rootsOf_32 : decode cX3_rootsOf 32 = .ok (.iconst 0, 1) := by decide +kernel
theorem dX3_rootsOf_33 : decode cX3_rootsOf 33 = .ok (.ior, 1) := by decide +kernel
theorem dX3_rootsOf_34 : decode cX3_rootsOf 34 = .ok (.istore_n 2, 1) := by decide +kernel
theorem dX3_rootsOf_35 : decode cX3_rootsOf 35 = .ok (.iinc 3 1, 3) := by decide +kernel
theorem dX3_rootsOf_38 : decode cX3_rootsOf 38 = .ok (.goto (-34), 3) := by decide +kernel
theorem dX3_rootsOf_41 : decode cX3_rootsOf 41 = .ok (.iload_n 2, 1) := by decide +kernel
theorem dX3_rootsOf_42 : decode cX3_rootsOf 42 = .ok (.ireturn, 1) := by decide +kernel
theorem dX3_tooHeavy_0 : decode cX3_tooHeavy 0 = .ok (.aload_n 0, 1) := by decide +kernel
theorem dX3_tooHeavy_1 : decode cX3_tooHeavy 1 = .ok (.getfield 31, 3) := by decide +kernel
theorem dX3_tooHeavy_4 : decode cX3_tooHeavy 4 = .ok (.ifCond .le 15, 3) := by decide +kernel
theorem dX3_tooHeavy_7 : decode cX3_tooHeavy 7 = .ok (.iload_n 1, 1) := by decide +kernel
theorem dX3_tooHeavy_8 : decode cX3_tooHeavy 8 = .ok (.aload_n 0, 1) := by decide +kernel
theorem dX3_tooHeavy_9 : decode cX3_tooHeavy 9 = .ok (.getfield 34, 3) := by decide +kernel
theorem dX3_tooHeavy_12 : decode cX3_tooHeavy 12 = .ok (.if_icmp .le 7, 3) := by decide +kernel
theorem dX3_tooHeavy_15 : decode cX3_tooHeavy 15 = .ok (.iconst 1, 1) := by decide +kernel
theorem dX3_tooHeavy_16 : decode cX3_tooHeavy 16 = .ok (.goto 4, 3) := by decide +kernel
theorem dX3_tooHeavy_19 : decode cX3_tooHeavy 19 = .ok (.iconst 0, 1) := by decide +kernel
theorem dX3_tooHeavy_20 : decode cX3_tooHeavy 20 = .ok (.ireturn, 1) := by decide +kernel
theorem dX3_note_0 : decode cX3_note 0 = .ok (.aload_n 0, 1) := by decide +kernel
theorem dX3_note_1 : decode cX3_note 1 = .ok (.getfield 31, 3) := by decide +kernel
theorem dX3_note_4 : decode cX3_note 4 = .ok (.ifCond .eq 11, 3) := by decide +kernel
theorem dX3_note_7 : decode cX3_note 7 = .ok (.iload_n 1, 1) := by decide +kernel
theorem dX3_note_8 : decode cX3_note 8 = .ok (.aload_n 0, 1) := by decide +kernel
theorem dX3_note_9 : decode cX3_note 9 = .ok (.getfield 34, 3) := by decide +kernel
theorem dX3_note_12 : decode cX3_note 12 = .ok (.if_icmp .ge 13, 3) := by decide +kernel
theorem dX3_note_15 : decode cX3_note 15 = .ok (.aload_n 0, 1) := by decide +kernel
theorem dX3_note_16 : decode cX3_note 16 = .ok (.iconst 0, 1) := by decide +kernel
theorem dX3_note_17 : decode cX3_note 17 = .ok (.putfield 31, 3) := by decide +kernel
theorem dX3_note_20 : decode cX3_note 20 = .ok (.aload_n 0, 1) := by decide +kernel
theorem dX3_note_21 : decode cX3_note 21 = .ok (.iload_n 1, 1) := by decide +kernel
theorem dX3_note_22 : decode cX3_note 22 = .ok (.putfield 34, 3) := by decide +kernel
theorem dX3_note_25 : decode cX3_note 25 = .ok (.aload_n 0, 1) := by decide +kernel
theorem dX3_note_26 : decode cX3_note 26 = .ok (.getfield 31, 3) := by decide +kernel
theorem dX3_note_29 : decode cX3_note 29 = .ok (.sipush 924, 3) := by decide +kernel
theorem dX3_note_32 : decode cX3_note 32 = .ok (.if_icmp .ge 23, 3) := by decide +kernel
theorem dX3_note_35 : decode cX3_note 35 = .ok (.aload_n 0, 1) := by decide +kernel
theorem dX3_note_36 : decode cX3_note 36 = .ok (.getfield 24, 3) := by decide +kernel
theorem dX3_note_39 : decode cX3_note 39 = .ok (.aload_n 0, 1) := by decide +kernel
theorem dX3_note_40 : decode cX3_note 40 = .ok (.getfield 31, 3) := by decide +kernel
theorem dX3_note_43 : decode cX3_note 43 = .ok (.iload_n 2, 1) := by decide +kernel
theorem dX3_note_44 : decode cX3_note 44 = .ok (.iastore, 1) := by decide +kernel
theorem dX3_note_45 : decode cX3_note 45 = .ok (.aload_n 0, 1) := by decide +kernel
theorem dX3_note_46 : decode cX3_note 46 = .ok (.dup, 1) := by decide +kernel
theorem dX3_note_47 : decode cX3_note 47 = .ok (.getfield 31, 3) := by decide +kernel
theorem dX3_note_50 : decode cX3_note 50 = .ok (.iconst 1, 1) := by decide +kernel
theorem dX3_note_51 : decode cX3_note 51 = .ok (.iadd, 1) := by decide +kernel
theorem dX3_note_52 : decode cX3_note 52 = .ok (.putfield 31, 3) := by decide +kernel
theorem dX3_note_55 : decode cX3_note 55 = .ok (.return_, 1) := by decide +kernel
theorem dX3_tell_0 : decode cX3_tell 0 = .ok (.aload_n 0, 1) := by decide +kernel
theorem dX3_tell_1 : decode cX3_tell 1 = .ok (.getfield 24, 3) := by decide +kernel
theorem dX3_tell_4 : decode cX3_tell 4 = .ok (.iconst 0, 1) := by decide +kernel
theorem dX3_tell_5 : decode cX3_tell 5 = .ok (.aload_n 0, 1) := by decide +kernel
theorem dX3_tell_6 : decode cX3_tell 6 = .ok (.getfield 11, 3) := by decide +kernel
theorem dX3_tell_9 : decode cX3_tell 9 = .ok (.iconst 0, 1) := by decide +kernel
theorem dX3_tell_10 : decode cX3_tell 10 = .ok (.aload_n 0, 1) := by decide +kernel
theorem dX3_tell_11 : decode cX3_tell 11 = .ok (.getfield 31, 3) := by decide +kernel
theorem dX3_tell_14 : decode cX3_tell 14 = .ok (.invokestatic 37, 3) := by decide +kernel
theorem dX3_tell_17 : decode cX3_tell 17 = .ok (.aload_n 0, 1) := by decide +kernel
theorem dX3_tell_18 : decode cX3_tell 18 = .ok (.aload_n 0, 1) := by decide +kernel
theorem dX3_tell_19 : decode cX3_tell 19 = .ok (.getfield 31, 3) := by decide +kernel
theorem dX3_tell_22 : decode cX3_tell 22 = .ok (.putfield 43, 3) := by decide +kernel
theorem dX3_tell_25 : decode cX3_tell 25 = .ok (.return_, 1) := by decide +kernel
theorem dX4_init_0 : decode cX4_init 0 = .ok (.aload_n 0, 1) := by decide +kernel
theorem dX4_init_1 : decode cX4_init 1 = .ok (.invokespecial 3, 3) := by decide +kernel
theorem dX4_init_4 : decode cX4_init 4 = .ok (.aload_n 0, 1) := by decide +kernel
theorem dX4_init_5 : decode cX4_init 5 = .ok (.bipush 10, 2) := by decide +kernel
theorem dX4_init_7 : decode cX4_init 7 = .ok (.newarray .int, 2) := by decide +kernel
theorem dX4_init_9 : decode cX4_init 9 = .ok (.putfield 9, 3) := by decide +kernel
theorem dX4_init_12 : decode cX4_init 12 = .ok (.aload_n 0, 1) := by decide +kernel
theorem dX4_init_13 : decode cX4_init 13 = .ok (.bipush 10, 2) := by decide +kernel
theorem dX4_init_15 : decode cX4_init 15 = .ok (.newarray .int, 2) := by decide +kernel
theorem dX4_init_17 : decode cX4_init 17 = .ok (.putfield 15, 3) := by decide +kernel
theorem dX4_init_20 : decode cX4_init 20 = .ok (.return_, 1) := by decide +kernel
theorem dX4_clear_0 : decode cX4_clear 0 = .ok (.aload_n 0, 1) := by decide +kernel
theorem dX4_clear_1 : decode cX4_clear 1 = .ok (.iconst 0, 1) := by decide +kernel
theorem dX4_clear_2 : decode cX4_clear 2 = .ok (.putfield 18, 3) := by decide +kernel
theorem dX4_clear_5 : decode cX4_clear 5 = .ok (.return_, 1) := by decide +kernel
theorem dX4_has_0 : decode cX4_has 0 = .ok (.iload_n 1, 1) := by decide +kernel
theorem dX4_has_1 : decode cX4_has 1 = .ok (.ifCond .lt 15, 3) := by decide +kernel
theorem dX4_has_4 : decode cX4_has 4 = .ok (.iload_n 1, 1) := by decide +kernel
theorem dX4_has_5 : decode cX4_has 5 = .ok (.aload_n 0, 1) := by decide +kernel
theorem dX4_has_6 : decode cX4_has 6 = .ok (.getfield 18, 3) := by decide +kernel
theorem dX4_has_9 : decode cX4_has 9 = .ok (.if_icmp .ge 7, 3) := by decide +kernel
theorem dX4_has_12 : decode cX4_has 12 = .ok (.iconst 1, 1) := by decide +kernel
theorem dX4_has_13 : decode cX4_has 13 = .ok (.goto 4, 3) := by decide +kernel
theorem dX4_has_16 : decode cX4_has 16 = .ok (.iconst 0, 1) := by decide +kernel
theorem dX4_has_17 : decode cX4_has 17 = .ok (.ireturn, 1) := by decide +kernel
theorem dX4_add_0 : decode cX4_add 0 = .ok (.iload_n 1, 1) := by decide +kernel
theorem dX4_add_1 : decode cX4_add 1 = .ok (.iconst 0, 1) := by decide +kernel
theorem dX4_add_2 : decode cX4_add 2 = .ok (.invokestatic 22, 3) := by decide +kernel
theorem dX4_add_5 : decode cX4_add 5 = .ok (.istore_n 3, 1) := by decide +kernel
theorem dX4_add_6 : decode cX4_add 6 = .ok (.iload_n 2, 1) := by decide +kernel
theorem dX4_add_7 : decode cX4_add 7 = .ok (.ldc 28, 2) := by decide +kernel
theorem dX4_add_9 : decode cX4_add 9 = .ok (.invokestatic 29, 3) := by decide +kernel
theorem dX4_add_12 : decode cX4_add 12 = .ok (.istore 4, 2) := by decide +kernel
theorem dX4_add_14 : decode cX4_add 14 = .ok (.iload_n 3, 1) := by decide +kernel
theorem dX4_add_15 : decode cX4_add 15 = .ok (.iload 4, 2) := by decide +kernel
theorem dX4_add_17 : decode cX4_add 17 = .ok (.if_icmp .gt 43, 3) := by decide +kernel
theorem dX4_add_20 : decode cX4_add 20 = .ok (.aload_n 0, 1) := by decide +kernel
theorem dX4_add_21 : decode cX4_add 21 = .ok (.getfield 18, 3) := by decide +kernel
theorem dX4_add_24 : decode cX4_add 24 = .ok (.bipush 10, 2) := by decide +kernel
theorem dX4_add_26 : decode cX4_add 26 = .ok (.if_icmp .ge 34, 3) := by decide +kernel
theorem dX4_add_29 : decode cX4_add 29 = .ok (.aload_n 0, 1) := by decide +kernel
theorem dX4_add_30 : decode cX4_add 30 = .ok (.getfield 9, 3) := by decide +kernel
theorem dX4_add_33 : decode cX4_add 33 = .ok (.aload_n 0, 1) := by decide +kernel
theorem dX4_add_34 : decode cX4_add 34 = .ok (.getfield 18, 3) := by decide +kernel
theorem dX4_add_37 : decode cX4_add 37 = .ok (.iload_n 3, 1) := by decide +kernel
theorem dX4_add_38 : decode cX4_add 38 = .ok (.iastore, 1) := by decide +kernel
theorem dX4_add_39 : decode cX4_add 39 = .ok (.aload_n 0, 1) := by decide +kernel
theorem dX4_add_40 : decode cX4_add 40 = .ok (.getfield 15, 3) := by decide +kernel
theorem dX4_add_43 : decode cX4_add 43 = .ok (.aload_n 0, 1) := by decide +kernel
theorem dX4_add_44 : decode cX4_add 44 = .ok (.getfield 18, 3) := by decide +kernel
theorem dX4_add_47 : decode cX4_add 47 = .ok (.iload 4, 2) := by decide +kernel
theorem dX4_add_49 : decode cX4_add 49 = .ok (.iastore, 1) := by decide +kernel
theorem dX4_add_50 : decode cX4_add 50 = .ok (.aload_n 0, 1) := by decide +kernel
theorem dX4_add_51 : decode cX4_add 51 = .ok (.dup, 1) := by decide +kernel
theorem dX4_add_52 : decode cX4_add 52 = .ok (.getfield 18, 3) := by decide +kernel
theorem dX4_add_55 : decode cX4_add 55 = .ok (.iconst 1, 1) := by decide +kernel
theorem dX4_add_56 : decode cX4_add 56 = .ok (.iadd, 1) := by decide +kernel
theorem dX4_add_57 : decode cX4_add 57 = .ok (.putfield 18, 3) := by decide +kernel
theorem dX4_add_60 : decode cX4_add 60 = .ok (.return_, 1) := by decide +kernel
set_option maxRecDepth 20000 in
theorem ggX4_setToCommon_X4_clear : GoodIn wsX4_setToCommon wsX4_clear := goodIn_r _ [15, 1, 21, 22, 23] (by decide +kernel) (by decide +kernel)
set_option maxRecDepth 20000 in
theorem gX4_setToCommon_X4_clear : GoodIn wsX4_setToCommon (wsV RX4 32 RX4 yX4_clear wsX4_clear) := goodIn_app (goodIn_of _ (by decide +kernel)) ggX4_setToCommon_X4_clear
set_option maxRecDepth 20000 in
theorem ggX4_setToCommon_X4_add : GoodIn wsX4_setToCommon wsX4_add := goodIn_r _ [19, 3, 4, 5, 6, 20, 8, 9, 10, 1, 2, 7, 21, 22, 23] (by decide +kernel) (by decide +kernel)
set_option maxRecDepth 20000 in
theorem gX4_setToCommon_X4_add : GoodIn wsX4_setToCommon (wsV RX4 35 RX4 yX4_add wsX4_add) := goodIn_app (goodIn_of _ (by decide +kernel)) ggX4_setToCommon_X4_add
theorem dX4_setToCommon_0 : decode cX4_setToCommon 0 = .ok (.aload_n 0, 1) := by decide +kernel
theorem dX4_setToCommon_1 : decode cX4_setToCommon 1 = .ok (.invokevirtual 32, 3) := by decide +kernel
theorem dX4_setToCommon_4 : decode cX4_setToCommon 4 = .ok (.iconst 0, 1) := by decide +kernel
theorem dX4_setToCommon_5 : decode cX4_setToCommon 5 = .ok (.istore_n 3, 1) := by decide +kernel
theorem dX4_setToCommon_6 : decode cX4_setToCommon 6 = .ok (.iconst 0, 1) := by decide +kernel
theorem dX4_setToCommon_7 : decode cX4_setToCommon 7 = .ok (.istore 4, 2) := by decide +kernel
theorem dX4_setToCommon_9 : decode cX4_setToCommon 9 = .ok (.iload_n 3, 1) := by decide +kernel
theorem dX4_setToCommon_10 : decode cX4_setToCommon 10 = .ok (.aload_n 1, 1) := by decide +kernel
theorem dX4_setToCommon_11 : decode cX4_setToCommon 11 = .ok (.getfield 18, 3) := by decide +kernel
theorem dX4_setToCommon_14 : decode cX4_setToCommon 14 = .ok (.if_icmp .ge 76, 3) := by decide +kernel
theorem dX4_setToCommon_17 : decode cX4_setToCommon 17 = .ok (.iload 4, 2) := by decide +kernel
theorem dX4_setToCommon_19 : decode cX4_setToCommon 19 = .ok (.aload_n 2, 1) := by decide +kernel
theorem dX4_setToCommon_20 : decode cX4_setToCommon 20 = .ok (.getfield 18, 3) := by decide +kernel
theorem dX4_setToCommon_23 : decode cX4_setToCommon 23 = .ok (.if_icmp .ge 67, 3) := by decide +kernel
theorem dX4_setToCommon_26 : decode cX4_setToCommon 26 = .ok (.aload_n 0, 1) := by decide +kernel
theorem dX4_setToCommon_27 : decode cX4_setToCommon 27 = .ok (.aload_n 1, 1) := by decide +kernel
theorem dX4_setToCommon_28 : decode cX4_setToCommon 28 = .ok (.getfield 9, 3) := by decide +kernel
theorem dX4_setToCommon_31 : decode cX4_setToCommon 31 = .ok (.iload_n 3, 1) := by decide +kernel
theorem dX4_setToCommon_32 : decode cX4_setToCommon 32 = .ok (.iaload, 1) := by decide +kernel
theorem dX4_setToCommon_33 : decode cX4_setToCommon 33 = .ok (.aload_n 2, 1) := by decide +kernel
theorem dX4_setToCommon_34 : decode cX4_setToCommon 34 = .ok (.getfield 9, 3) := by decide +kernel
theorem dX4_setToCommon_37 : decode cX4_setToCommon 37 = .ok (.iload 4, 2) := by decide +kernel
theorem dX4_setToCommon_39 : decode cX4_setToCommon 39 = .ok (.iaload, 1) := by decide +kernel
theorem dX4_setToCommon_40 : decode cX4_setToCommon 40 = .ok (.invokestatic 22, 3) := by decide +kernel
theorem dX4_setToCommon_43 : decode cX4_setToCommon 43 = .ok (.aload_n 1, 1) := by decide +kernel
theorem dX4_setToCommon_44 : decode cX4_setToCommon 44 = .ok (.getfield 15, 3) := by decide +kernel
theorem dX4_setToCommon_47 : decode cX4_setToCommon 47 = .ok (.iload_n 3, 1) := by decide +kernel
theorem dX4_setToCommon_48 : decode cX4_setToCommon 48 = .ok (.iaload, 1) := by decide +kernel
theorem dX4_setToCommon_49 : decode cX4_setToCommon 49 = .ok (.aload_n 2, 1) := by decide +kernel
theorem dX4_setToCommon_50 : decode cX4_setToCommon 50 = .ok (.getfield 15, 3) := by decide +kernel
theorem dX4_setToCommon_53 : decode cX4_setToCommon 53 = .ok (.iload 4, 2) := by decide +kernel
theorem dX4_setToCommon_55 : decode cX4_setToCommon 55 = .ok (.iaload, 1) := by decide +kernel
theorem dX4_setToCommon_56 : decode cX4_setToCommon 56 = .ok (.invokestatic 29, 3) := by decide +kernel
theorem dX4_setToCommon_59 : decode cX4_setToCommon 59 = .ok (.invokevirtual 35, 3) := by decide +kernel
theorem dX4_setToCommon_62 : decode cX4_setToCommon 62 = .ok (.aload_n 1, 1) := by decide +kernel
theorem dX4_setToCommon_63 : decode cX4_setToCommon 63 = .ok (.getfield 15, 3) := by decide +kernel
theorem dX4_setToCommon_66 : decode cX4_setToCommon 66 = .ok (.iload_n 3, 1) := by decide +kernel
theorem dX4_setToCommon_67 : decode cX4_setToCommon 67 = .ok (.iaload, 1) := by decide +kernel
theorem dX4_setToCommon_68 : decode cX4_setToCommon 68 = .ok (.aload_n 2, 1) := by decide +kernel
theorem dX4_setToCommon_69 : decode cX4_setToCommon 69 = .ok (.getfield 15, 3) := by decide +kernel
theorem dX4_setToCommon_72 : decode cX4_setToCommon 72 = .ok (.iload 4, 2) := by decide +kernel
theorem dX4_setToCommon_74 : decode cX4_setToCommon 74 = .ok (.iaload, 1) := by decide +kernel
theorem dX4_setToCommon_75 : decode cX4_setToCommon 75 = .ok (.if_icmp .ge 9, 3) := by decide +kernel
theorem dX4_setToCommon_78 : decode cX4_setToCommon 78 = .ok (.iinc 3 1, 3) := by decide +kernel
theorem dX4_setToCommon_81 : decode cX4_setToCommon 81 = .ok (.goto (-72), 3) := by decide +kernel
theorem dX4_setToCommon_84 : decode cX4_setToCommon 84 = .ok (.iinc 4 1, 3) := by decide +kernel
theorem dX4_setToCommon_87 : decode cX4_setToCommon 87 = .ok (.goto (-78), 3) := by decide +kernel
theorem dX4_setToCommon_90 : decode cX4_setToCommon 90 = .ok (.return_, 1) := by decide +kernel
end
section
set_option maxRecDepth 20000 in
theorem ggX5_init_X1_init : GoodIn wsX5_init wsX1_init := goodIn_r _ [23, 24, 2, 3, 25, 26, 27, 28, 29, 30, 31, 4, 32, 33, 99, 100, 101, 67, 68, 69, 70, 71, 72, 73, 74, 75] (by decide +kernel) (by decide +kernel)
set_option maxRecDepth 20000 in
theorem gX5_init_X1_init_n25 : GoodIn wsX5_init (wsX1_init) := ggX5_init_X1_init
set_option maxRecDepth 20000 in
theorem ggX5_init_X2_init : GoodIn wsX5_init wsX2_init := goodIn_r _ [36, 37, 2, 3, 4, 38, 39, 40, 41, 26, 27, 42, 43, 44, 45, 46, 47, 29, 30, 31, 32, 33, 76, 77, 78, 79, 80, 81, 82, 83, 84, 85, 86, 87, 88, 89, 99, 100, 101] (by decide +kernel) (by decide +kernel)
set_option maxRecDepth 20000 in
theorem gX5_init_X2_init : GoodIn wsX5_init (wsX2_init) := ggX5_init_X2_init
set_option maxRecDepth 20000 in
theorem ggX5_init_X3_init : GoodIn wsX5_init wsX3_init := goodIn_r _ [49, 50, 2, 3, 4, 51, 52, 53, 54, 55, 90, 91, 92, 93, 94, 95, 96, 97, 98] (by decide +kernel) (by decide +kernel)
set_option maxRecDepth 20000 in
theorem gX5_init_X3_init_n35 : GoodIn wsX5_init (wsX3_init) := ggX5_init_X3_init
theorem dX5_init_0 : decode cX5_init 0 = .ok (.aload_n 0, 1) := by decide +kernel
theorem dX5_init_1 : decode cX5_init 1 = .ok (.invokespecial 1, 3) := by decide +kernel
theorem dX5_init_4 : decode cX5_init 4 = .ok (.aload_n 0, 1) := by decide +kernel
theorem dX5_init_5 : decode cX5_init 5 = .ok (.bipush 6, 2) := by decide +kernel
theorem dX5_init_7 : decode cX5_init 7 = .ok (.newarray .int, 2) := by decide +kernel
theorem dX5_init_9 : decode cX5_init 9 = .ok (.putfield 9, 3) := by decide +kernel
theorem dX5_init_12 : decode cX5_init 12 = .ok (.aload_n 0, 1) := by decide +kernel
theorem dX5_init_13 : decode cX5_init 13 = .ok (.bipush 6, 2) := by decide +kernel
theorem dX5_init_15 : decode cX5_init 15 = .ok (.newarray .int, 2) := by decide +kernel
theorem dX5_init_17 : decode cX5_init 17 = .ok (.putfield 13, 3) := by decide +kernel
theorem dX5_init_20 : decode cX5_init 20 = .ok (.aload_n 0, 1) := by decide +kernel
theorem dX5_init_21 : decode cX5_init 21 = .ok (.bipush 6, 2) := by decide +kernel
theorem dX5_init_23 : decode cX5_init 23 = .ok (.newarray .int, 2) := by decide +kernel
theorem dX5_init_25 : decode cX5_init 25 = .ok (.putfield 16, 3) := by decide +kernel
theorem dX5_init_28 : decode cX5_init 28 = .ok (.aload_n 0, 1) := by decide +kernel
theorem dX5_init_29 : decode cX5_init 29 = .ok (.bipush 12, 2) := by decide +kernel
theorem dX5_init_31 : decode cX5_init 31 = .ok (.anewarray 19, 3) := by decide +kernel
theorem dX5_init_34 : decode cX5_init 34 = .ok (.putfield 21, 3) := by decide +kernel
theorem dX5_init_37 : decode cX5_init 37 = .ok (.iconst 0, 1) := by decide +kernel
theorem dX5_init_38 : decode cX5_init 38 = .ok (.istore_n 1, 1) := by decide +kernel
theorem dX5_init_39 : decode cX5_init 39 = .ok (.iload_n 1, 1) := by decide +kernel
theorem dX5_init_40 : decode cX5_init 40 = .ok (.bipush 12, 2) := by decide +kernel
theorem dX5_init_42 : decode cX5_init 42 = .ok (.if_icmp .ge 22, 3) := by decide +kernel
theorem dX5_init_45 : decode cX5_init 45 = .ok (.aload_n 0, 1) := by decide +kernel
theorem dX5_init_46 : decode cX5_init 46 = .ok (.getfield 21, 3) := by decide +kernel
theorem dX5_init_49 : decode cX5_init 49 = .ok (.iload_n 1, 1) := by decide +kernel
theorem dX5_init_50 : decode cX5_init 50 = .ok (.new 19, 3) := by decide +kernel
theorem dX5_init_53 : decode cX5_init 53 = .ok (.dup, 1) := by decide +kernel
theorem dX5_init_54 : decode cX5_init 54 = .ok (.invokespecial 25, 3) := by decide +kernel
theorem dX5_init_57 : decode cX5_init 57 = .ok (.aastore, 1) := by decide +kernel
theorem dX5_init_58 : decode cX5_init 58 = .ok (.iinc 1 1, 3) := by decide +kernel
theorem dX5_init_61 : decode cX5_init 61 = .ok (.goto (-22), 3) := by decide +kernel
theorem dX5_init_64 : decode cX5_init 64 = .ok (.aload_n 0, 1) := by decide +kernel
theorem dX5_init_65 : decode cX5_init 65 = .ok (.new 26, 3) := by decide +kernel
theorem dX5_init_68 : decode cX5_init 68 = .ok (.dup, 1) := by decide +kernel
theorem dX5_init_69 : decode cX5_init 69 = .ok (.invokespecial 28, 3) := by decide +kernel
theorem dX5_init_72 : decode cX5_init 72 = .ok (.putfield 29, 3) := by decide +kernel
theorem dX5_init_75 : decode cX5_init 75 = .ok (.aload_n 0, 1) := by decide +kernel
theorem dX5_init_76 : decode cX5_init 76 = .ok (.new 33, 3) := by decide +kernel
theorem dX5_init_79 : decode cX5_init 79 = .ok (.dup, 1) := by decide +kernel
theorem dX5_init_80 : decode cX5_init 80 = .ok (.invokespecial 35, 3) := by decide +kernel
theorem dX5_init_83 : decode cX5_init 83 = .ok (.putfield 36, 3) := by decide +kernel
theorem dX5_init_86 : decode cX5_init 86 = .ok (.aload_n 0, 1) := by decide +kernel
theorem dX5_init_87 : decode cX5_init 87 = .ok (.bipush 6, 2) := by decide +kernel
theorem dX5_init_89 : decode cX5_init 89 = .ok (.newarray .int, 2) := by decide +kernel
theorem dX5_init_91 : decode cX5_init 91 = .ok (.putfield 40, 3) := by decide +kernel
theorem dX5_init_94 : decode cX5_init 94 = .ok (.aload_n 0, 1) := by decide +kernel
theorem dX5_init_95 : decode cX5_init 95 = .ok (.bipush 6, 2) := by decide +kernel
theorem dX5_init_97 : decode cX5_init 97 = .ok (.newarray .int, 2) := by decide +kernel
theorem dX5_init_99 : decode cX5_init 99 = .ok (.putfield 43, 3) := by decide +kernel
theorem dX5_init_102 : decode cX5_init 102 = .ok (.return_, 1) := by decide +kernel
set_option maxRecDepth 20000 in
theorem ggX5_day_X0_dayOf : GoodIn wsX5_day wsX0_dayOf := goodIn_r _ [4, 5, 6, 3, 7, 8, 9, 10, 11, 12, 13, 14, 15, 16, 17, 18, 19, 20, 21, 22, 23, 24, 25, 26, 27, 28, 29, 30, 31, 32, 33] (by decide +kernel) (by decide +kernel)
set_option maxRecDepth 20000 in
theorem gX5_day_X0_dayOf : GoodIn wsX5_day (va_wsS RX5 46 yX0_dayOf wsX0_dayOf) := goodIn_app (goodIn_of _ (by decide +kernel)) ggX5_day_X0_dayOf
theorem dX5_day_0 : decode cX5_day 0 = .ok (.iload_n 1, 1) := by decide +kernel
theorem dX5_day_1 : decode cX5_day 1 = .ok (.iload_n 2, 1) := by decide +kernel
theorem dX5_day_2 : decode cX5_day 2 = .ok (.iload_n 3, 1) := by decide +kernel
theorem dX5_day_3 : decode cX5_day 3 = .ok (.iload 4, 2) := by decide +kernel
theorem dX5_day_5 : decode cX5_day 5 = .ok (.invokestatic 46, 3) := by decide +kernel
theorem dX5_day_8 : decode cX5_day 8 = .ok (.ireturn, 1) := by decide +kernel
set_option maxRecDepth 20000 in
theorem ggX5_date_X0_partOf : GoodIn wsX5_date wsX0_partOf := goodIn_r _ [4, 5, 6, 3, 7, 8, 9, 10, 11, 12, 13, 14, 15, 16, 17, 18, 19, 20, 21, 22, 23, 24, 25, 26, 27] (by decide +kernel) (by decide +kernel)
set_option maxRecDepth 20000 in
theorem gX5_date_X0_partOf : GoodIn wsX5_date (va_wsS RX5 52 yX0_partOf wsX0_partOf) := goodIn_app (goodIn_of _ (by decide +kernel)) ggX5_date_X0_partOf
theorem dX5_date_0 : decode cX5_date 0 = .ok (.iload_n 1, 1) := by decide +kernel
theorem dX5_date_1 : decode cX5_date 1 = .ok (.iload_n 2, 1) := by decide +kernel
theorem dX5_date_2 : decode cX5_date 2 = .ok (.iload_n 3, 1) := by decide +kernel
theorem dX5_date_3 : decode cX5_date 3 = .ok (.invokestatic 52, 3) := by decide +kernel
theorem dX5_date_6 : decode cX5_date 6 = .ok (.ireturn, 1) := by decide +kernel
set_option maxRecDepth 20000 in
theorem ggX5_years_X0_yearsBehind : GoodIn wsX5_years wsX0_yearsBehind := goodIn_r _ [4, 5, 6, 3, 7, 8, 9, 10, 11, 12, 13, 14, 15, 16, 17, 18, 19, 20, 21, 22, 23, 24, 25, 26, 27, 28, 29, 30, 31, 32, 33, 34, 35, 36, 37, 38, 39, 40, 41, 42] (by decide +kernel) (by decide +kernel)
set_option maxRecDepth 20000 in
theorem gX5_years_X0_yearsBehind : GoodIn wsX5_years (va_wsS RX5 56 yX0_yearsBehind wsX0_yearsBehind) := goodIn_app (goodIn_of _ (by decide +kernel)) ggX5_years_X0_yearsBehind
theorem dX5_years_0 : decode cX5_years 0 = .ok (.iload_n 1, 1) := by decide +kernel
theorem dX5_years_1 : decode cX5_years 1 = .ok (.iload_n 2, 1) := by decide +kernel
theorem dX5_years_2 : decode cX5_years 2 = .ok (.iload_n 3, 1) := by decide +kernel
theorem dX5_years_3 : decode cX5_years 3 = .ok (.invokestatic 56, 3) := by decide +kernel
theorem dX5_years_6 : decode cX5_years 6 = .ok (.ireturn, 1) := by decide +kernel
set_option maxRecDepth 20000 in
theorem ggX5_king_X0_isCalendar : GoodIn wsX5_king wsX0_isCalendar := goodIn_r _ [8] (by decide +kernel) (by decide +kernel)
set_option maxRecDepth 20000 in
theorem gX5_king_X0_isCalendar : GoodIn wsX5_king (va_wsS RX5 63 yX0_isCalendar wsX0_isCalendar) := goodIn_app (goodIn_of _ (by decide +kernel)) ggX5_king_X0_isCalendar
set_option maxRecDepth 20000 in
theorem ggX5_king_X5_isRowOfDays : GoodIn wsX5_king wsX5_isRowOfDays := goodIn_r _ [12, 13, 14, 11, 15, 16] (by decide +kernel) (by decide +kernel)
set_option maxRecDepth 20000 in
theorem gX5_king_X5_isRowOfDays : GoodIn wsX5_king (va_wsS RX5 67 yX5_isRowOfDays wsX5_isRowOfDays) := goodIn_app (goodIn_of _ (by decide +kernel)) ggX5_king_X5_isRowOfDays
theorem dX5_king_0 : decode cX5_king 0 = .ok (.aload_n 0, 1) := by decide +kernel
theorem dX5_king_1 : decode cX5_king 1 = .ok (.getfield 59, 3) := by decide +kernel
theorem dX5_king_4 : decode cX5_king 4 = .ok (.bipush 6, 2) := by decide +kernel
theorem dX5_king_6 : decode cX5_king 6 = .ok (.if_icmp .ge 18, 3) := by decide +kernel
theorem dX5_king_9 : decode cX5_king 9 = .ok (.iload_n 1, 1) := by decide +kernel
theorem dX5_king_10 : decode cX5_king 10 = .ok (.invokestatic 63, 3) := by decide +kernel
theorem dX5_king_13 : decode cX5_king 13 = .ok (.ifCond .eq 11, 3) := by decide +kernel
theorem dX5_king_16 : decode cX5_king 16 = .ok (.iload_n 2, 1) := by decide +kernel
theorem dX5_king_17 : decode cX5_king 17 = .ok (.iload_n 3, 1) := by decide +kernel
theorem dX5_king_18 : decode cX5_king 18 = .ok (.invokestatic 67, 3) := by decide +kernel
theorem dX5_king_21 : decode cX5_king 21 = .ok (.ifCond .ne 5, 3) := by decide +kernel
theorem dX5_king_24 : decode cX5_king 24 = .ok (.iconst (-1), 1) := by decide +kernel
theorem dX5_king_25 : decode cX5_king 25 = .ok (.ireturn, 1) := by decide +kernel
theorem dX5_king_26 : decode cX5_king 26 = .ok (.aload_n 0, 1) := by decide +kernel
theorem dX5_king_27 : decode cX5_king 27 = .ok (.getfield 9, 3) := by decide +kernel
theorem dX5_king_30 : decode cX5_king 30 = .ok (.aload_n 0, 1) := by decide +kernel
theorem dX5_king_31 : decode cX5_king 31 = .ok (.getfield 59, 3) := by decide +kernel
theorem dX5_king_34 : decode cX5_king 34 = .ok (.iload_n 1, 1) := by decide +kernel
theorem dX5_king_35 : decode cX5_king 35 = .ok (.iastore, 1) := by decide +kernel
theorem dX5_king_36 : decode cX5_king 36 = .ok (.aload_n 0, 1) := by decide +kernel
theorem dX5_king_37 : decode cX5_king 37 = .ok (.getfield 13, 3) := by decide +kernel
theorem dX5_king_40 : decode cX5_king 40 = .ok (.aload_n 0, 1) := by decide +kernel
theorem dX5_king_41 : decode cX5_king 41 = .ok (.getfield 59, 3) := by decide +kernel
theorem dX5_king_44 : decode cX5_king 44 = .ok (.iload_n 2, 1) := by decide +kernel
theorem dX5_king_45 : decode cX5_king 45 = .ok (.iastore, 1) := by decide +kernel
theorem dX5_king_46 : decode cX5_king 46 = .ok (.aload_n 0, 1) := by decide +kernel
theorem dX5_king_47 : decode cX5_king 47 = .ok (.getfield 16, 3) := by decide +kernel
theorem dX5_king_50 : decode cX5_king 50 = .ok (.aload_n 0, 1) := by decide +kernel
theorem dX5_king_51 : decode cX5_king 51 = .ok (.getfield 59, 3) := by decide +kernel
theorem dX5_king_54 : decode cX5_king 54 = .ok (.iload_n 3, 1) := by decide +kernel
theorem dX5_king_55 : decode cX5_king 55 = .ok (.iastore, 1) := by decide +kernel
theorem dX5_king_56 : decode cX5_king 56 = .ok (.aload_n 0, 1) := by decide +kernel
theorem dX5_king_57 : decode cX5_king 57 = .ok (.dup, 1) := by decide +kernel
theorem dX5_king_58 : decode cX5_king 58 = .ok (.getfield 59, 3) := by decide +kernel
theorem dX5_king_61 : decode cX5_king 61 = .ok (.iconst 1, 1) := by decide +kernel
theorem dX5_king_62 : decode cX5_king 62 = .ok (.iadd, 1) := by decide +kernel
theorem dX5_king_63 : decode cX5_king 63 = .ok (.putfield 59, 3) := by decide +kernel
theorem dX5_king_66 : decode cX5_king 66 = .ok (.aload_n 0, 1) := by decide +kernel
theorem dX5_king_67 : decode cX5_king 67 = .ok (.getfield 59, 3) := by decide +kernel
theorem dX5_king_70 : decode cX5_king 70 = .ok (.iconst 1, 1) := by decide +kernel
theorem dX5_king_71 : decode cX5_king 71 = .ok (.isub, 1) := by decide +kernel
theorem dX5_king_72 : decode cX5_king 72 = .ok (.ireturn, 1) := by decide +kernel
theorem dX5_event_0 : decode cX5_event 0 = .ok (.aload_n 0, 1) := by decide +kernel
theorem dX5_event_1 : decode cX5_event 1 = .ok (.getfield 71, 3) := by decide +kernel
theorem dX5_event_4 : decode cX5_event 4 = .ok (.bipush 6, 2) := by decide +kernel
theorem dX5_event_6 : decode cX5_event 6 = .ok (.if_icmp .lt 5, 3) := by decide +kernel
theorem dX5_event_9 : decode cX5_event 9 = .ok (.iconst (-1), 1) := by decide +kernel
theorem dX5_event_10 : decode cX5_event 10 = .ok (.ireturn, 1) := by decide +kernel
theorem dX5_event_11 : decode cX5_event 11 = .ok (.aload_n 0, 1) := by decide +kernel
theorem dX5_event_12 : decode cX5_event 12 = .ok (.dup, 1) := by decide +kernel
theorem dX5_event_13 : decode cX5_event 13 = .ok (.getfield 71, 3) := by decide +kernel
theorem dX5_event_16 : decode cX5_event 16 = .ok (.iconst 1, 1) := by decide +kernel
theorem dX5_event_17 : decode cX5_event 17 = .ok (.iadd, 1) := by decide +kernel
theorem dX5_event_18 : decode cX5_event 18 = .ok (.putfield 71, 3) := by decide +kernel
theorem dX5_event_21 : decode cX5_event 21 = .ok (.aload_n 0, 1) := by decide +kernel
theorem dX5_event_22 : decode cX5_event 22 = .ok (.getfield 71, 3) := by decide +kernel
theorem dX5_event_25 : decode cX5_event 25 = .ok (.iconst 1, 1) := by decide +kernel
theorem dX5_event_26 : decode cX5_event 26 = .ok (.isub, 1) := by decide +kernel
theorem dX5_event_27 : decode cX5_event 27 = .ok (.ireturn, 1) := by decide +kernel
set_option maxRecDepth 20000 in
theorem ggX5_say_X5_isEvent : GoodIn wsX5_say wsX5_isEvent := goodIn_r _ [9, 10, 120, 121, 122, 123, 124, 125, 126, 127, 128, 129, 130] (by decide +kernel) (by decide +kernel)
set_option maxRecDepth 20000 in
theorem gX5_say_X5_isEvent : GoodIn wsX5_say (wsV RX5 77 RX5 yX5_isEvent wsX5_isEvent) := goodIn_app (goodIn_of _ (by decide +kernel)) ggX5_say_X5_isEvent
set_option maxRecDepth 20000 in
theorem ggX5_say_X4_clear : GoodIn wsX5_say wsX4_clear := goodIn_r _ [15, 16, 140, 141, 142] (by decide +kernel) (by decide +kernel)
set_option maxRecDepth 20000 in
theorem gX5_say_X4_clear : GoodIn wsX5_say (wsV RX5 84 RX4 yX4_clear wsX4_clear) := goodIn_app (goodIn_of _ (by decide +kernel)) ggX5_say_X4_clear
set_option maxRecDepth 20000 in
theorem ggX5_say_X5_isBehind : GoodIn wsX5_say wsX5_isBehind := goodIn_r _ [20, 21, 22, 5, 6, 7, 8, 9, 10, 120, 121, 122, 123, 124, 125, 126, 127, 128, 129, 130] (by decide +kernel) (by decide +kernel)
set_option maxRecDepth 20000 in
theorem gX5_say_X5_isBehind : GoodIn wsX5_say (wsV RX5 89 RX5 yX5_isBehind wsX5_isBehind) := goodIn_app (goodIn_of _ (by decide +kernel)) ggX5_say_X5_isBehind
set_option maxRecDepth 20000 in
theorem ggX5_say_X1_setBehind : GoodIn wsX5_say wsX1_setBehind := goodIn_r _ [27, 28, 29, 30, 131, 132, 133, 134, 135, 136, 137, 138, 139] (by decide +kernel) (by decide +kernel)
set_option maxRecDepth 20000 in
theorem gX5_say_X1_setBehind : GoodIn wsX5_say (wsV RX5 93 RX1 yX1_setBehind wsX1_setBehind) := goodIn_app (goodIn_of _ (by decide +kernel)) ggX5_say_X1_setBehind
set_option maxRecDepth 20000 in
theorem ggX5_say_X5_fillSpans : GoodIn wsX5_say wsX5_fillSpans := goodIn_r _ [34, 35, 36, 8, 37, 38, 39, 40, 41, 42, 43, 44, 14, 45, 46, 47, 48, 49, 50, 51, 52, 53, 16, 54, 55, 56, 57, 58, 59, 60, 61, 62, 63, 64, 65, 66, 67, 68, 69, 70, 71, 72, 73, 74, 75, 76, 77, 78, 79, 80, 81, 82, 83, 84, 85, 86, 87, 88, 89, 90, 91, 92, 93, 94, 95, 96, 97, 98, 99, 100, 101, 102, 103, 104, 105, 106, 107, 108, 109, 110, 140, 141, 142, 120, 121, 122, 123, 124, 125, 126, 127, 128, 129, 130] (by decide +kernel) (by decide +kernel)
set_option maxRecDepth 20000 in
theorem gX5_say_X5_fillSpans : GoodIn wsX5_say (wsV RX5 97 RX5 yX5_fillSpans wsX5_fillSpans) := goodIn_app (goodIn_of _ (by decide +kernel)) ggX5_say_X5_fillSpans
set_option maxRecDepth 20000 in
theorem ggX5_say_X1_begin : GoodIn wsX5_say wsX1_begin := goodIn_r _ [114, 115, 116, 117, 118, 119, 131, 132, 133, 134, 135, 136, 137, 138, 139] (by decide +kernel) (by decide +kernel)
set_option maxRecDepth 20000 in
theorem gX5_say_X1_begin : GoodIn wsX5_say (wsV RX5 104 RX1 yX1_begin wsX1_begin) := goodIn_app (goodIn_of _ (by decide +kernel)) ggX5_say_X1_begin
theorem dX5_say_0 : decode cX5_say 0 = .ok (.aload_n 0, 1) := by decide +kernel
theorem dX5_say_1 : decode cX5_say 1 = .ok (.getfield 74, 3) := by decide +kernel
theorem dX5_say_4 : decode cX5_say 4 = .ok (.bipush 12, 2) := by decide +kernel
theorem dX5_say_6 : decode cX5_say 6 = .ok (.if_icmp .ge 24, 3) := by decide +kernel
theorem dX5_say_9 : decode cX5_say 9 = .ok (.aload_n 0, 1) := by decide +kernel
theorem dX5_say_10 : decode cX5_say 10 = .ok (.iload_n 1, 1) := by decide +kernel
theorem dX5_say_11 : decode cX5_say 11 = .ok (.invokevirtual 77, 3) := by decide +kernel
theorem dX5_say_14 : decode cX5_say 14 = .ok (.ifCond .eq 16, 3) := by decide +kernel
theorem dX5_say_17 : decode cX5_say 17 = .ok (.iload 6, 2) := by decide +kernel
theorem dX5_say_19 : decode cX5_say 19 = .ok (.iconst 1, 1) := by decide +kernel
theorem dX5_say_20 : decode cX5_say 20 = .ok (.if_icmp .lt 10, 3) := by decide +kernel
theorem dX5_say_23 : decode cX5_say 23 = .ok (.iload 6, 2) := by decide +kernel
theorem dX5_say_25 : decode cX5_say 25 = .ok (.bipush 100, 2) := by decide +kernel
theorem dX5_say_27 : decode cX5_say 27 = .ok (.if_icmp .le 5, 3) := by decide +kernel
theorem dX5_say_30 : decode cX5_say 30 = .ok (.iconst (-1), 1) := by decide +kernel
theorem dX5_say_31 : decode cX5_say 31 = .ok (.ireturn, 1) := by decide +kernel
theorem dX5_say_32 : decode cX5_say 32 = .ok (.aload_n 0, 1) := by decide +kernel
theorem dX5_say_33 : decode cX5_say 33 = .ok (.getfield 21, 3) := by decide +kernel
theorem dX5_say_36 : decode cX5_say 36 = .ok (.aload_n 0, 1) := by decide +kernel
theorem dX5_say_37 : decode cX5_say 37 = .ok (.getfield 74, 3) := by decide +kernel
theorem dX5_say_40 : decode cX5_say 40 = .ok (.aaload, 1) := by decide +kernel
theorem dX5_say_41 : decode cX5_say 41 = .ok (.astore 7, 2) := by decide +kernel
theorem dX5_say_43 : decode cX5_say 43 = .ok (.aload 7, 2) := by decide +kernel
theorem dX5_say_45 : decode cX5_say 45 = .ok (.getfield 80, 3) := by decide +kernel
theorem dX5_say_48 : decode cX5_say 48 = .ok (.invokevirtual 84, 3) := by decide +kernel
theorem dX5_say_51 : decode cX5_say 51 = .ok (.iload_n 2, 1) := by decide +kernel
theorem dX5_say_52 : decode cX5_say 52 = .ok (.bipush 6, 2) := by decide +kernel
theorem dX5_say_54 : decode cX5_say 54 = .ok (.if_icmp .ne 31, 3) := by decide +kernel
theorem dX5_say_57 : decode cX5_say 57 = .ok (.aload_n 0, 1) := by decide +kernel
theorem dX5_say_58 : decode cX5_say 58 = .ok (.iload_n 1, 1) := by decide +kernel
theorem dX5_say_59 : decode cX5_say 59 = .ok (.iload_n 3, 1) := by decide +kernel
theorem dX5_say_60 : decode cX5_say 60 = .ok (.iload 4, 2) := by decide +kernel
theorem dX5_say_62 : decode cX5_say 62 = .ok (.iload 5, 2) := by decide +kernel
theorem dX5_say_64 : decode cX5_say 64 = .ok (.invokevirtual 89, 3) := by decide +kernel
theorem dX5_say_67 : decode cX5_say 67 = .ok (.ifCond .ne 5, 3) := by decide +kernel
theorem dX5_say_70 : decode cX5_say 70 = .ok (.iconst (-1), 1) := by decide +kernel
theorem dX5_say_71 : decode cX5_say 71 = .ok (.ireturn, 1) := by decide +kernel
theorem dX5_say_72 : decode cX5_say 72 = .ok (.aload 7, 2) := by decide +kernel
theorem dX5_say_74 : decode cX5_say 74 = .ok (.iload_n 3, 1) := by decide +kernel
theorem dX5_say_75 : decode cX5_say 75 = .ok (.iload 4, 2) := by decide +kernel
theorem dX5_say_77 : decode cX5_say 77 = .ok (.iload 5, 2) := by decide +kernel
theorem dX5_say_79 : decode cX5_say 79 = .ok (.invokevirtual 93, 3) := by decide +kernel
theorem dX5_say_82 : decode cX5_say 82 = .ok (.goto 31, 3) := by decide +kernel
theorem dX5_say_85 : decode cX5_say 85 = .ok (.aload_n 0, 1) := by decide +kernel
theorem dX5_say_86 : decode cX5_say 86 = .ok (.aload 7, 2) := by decide +kernel
theorem dX5_say_88 : decode cX5_say 88 = .ok (.getfield 80, 3) := by decide +kernel
theorem dX5_say_91 : decode cX5_say 91 = .ok (.iload_n 2, 1) := by decide +kernel
theorem dX5_say_92 : decode cX5_say 92 = .ok (.iload_n 3, 1) := by decide +kernel
theorem dX5_say_93 : decode cX5_say 93 = .ok (.iload 4, 2) := by decide +kernel
theorem dX5_say_95 : decode cX5_say 95 = .ok (.iload 5, 2) := by decide +kernel
theorem dX5_say_97 : decode cX5_say 97 = .ok (.invokevirtual 97, 3) := by decide +kernel
theorem dX5_say_100 : decode cX5_say 100 = .ok (.aload 7, 2) := by decide +kernel
theorem dX5_say_102 : decode cX5_say 102 = .ok (.getfield 80, 3) := by decide +kernel
theorem dX5_say_105 : decode cX5_say 105 = .ok (.getfield 101, 3) := by decide +kernel
theorem dX5_say_108 : decode cX5_say 108 = .ok (.ifCond .ne 5, 3) := by decide +kernel
theorem dX5_say_111 : decode cX5_say 111 = .ok (.iconst (-1), 1) := by decide +kernel
theorem dX5_say_112 : decode cX5_say 112 = .ok (.ireturn, 1) := by decide +kernel
theorem dX5_say_113 : decode cX5_say 113 = .ok (.aload 7, 2) := by decide +kernel
theorem dX5_say_115 : decode cX5_say 115 = .ok (.iload_n 1, 1) := by decide +kernel
theorem dX5_say_116 : decode cX5_say 116 = .ok (.iload_n 2, 1) := by decide +kernel
theorem dX5_say_117 : decode cX5_say 117 = .ok (.iload 6, 2) := by decide +kernel
theorem dX5_say_119 : decode cX5_say 119 = .ok (.invokevirtual 104, 3) := by decide +kernel
theorem dX5_say_122 : decode cX5_say 122 = .ok (.aload_n 0, 1) := by decide +kernel
theorem dX5_say_123 : decode cX5_say 123 = .ok (.dup, 1) := by decide +kernel
theorem dX5_say_124 : decode cX5_say 124 = .ok (.getfield 74, 3) := by decide +kernel
theorem dX5_say_127 : decode cX5_say 127 = .ok (.iconst 1, 1) := by decide +kernel
theorem dX5_say_128 : decode cX5_say 128 = .ok (.iadd, 1) := by decide +kernel
theorem dX5_say_129 : decode cX5_say 129 = .ok (.putfield 74, 3) := by decide +kernel
theorem dX5_say_132 : decode cX5_say 132 = .ok (.aload_n 0, 1) := by decide +kernel
theorem dX5_say_133 : decode cX5_say 133 = .ok (.getfield 74, 3) := by decide +kernel
theorem dX5_say_136 : decode cX5_say 136 = .ok (.iconst 1, 1) := by decide +kernel
theorem dX5_say_137 : decode cX5_say 137 = .ok (.isub, 1) := by decide +kernel
theorem dX5_say_138 : decode cX5_say 138 = .ok (.ireturn, 1) := by decide +kernel
set_option maxRecDepth 20000 in
theorem ggX5_copy_X5_isSaying : GoodIn wsX5_copy wsX5_isSaying := goodIn_r _ [7, 8, 9, 10, 11, 12, 13, 14, 15, 16, 17, 18, 19] (by decide +kernel) (by decide +kernel)
set_option maxRecDepth 20000 in
theorem gX5_copy_X5_isSaying : GoodIn wsX5_copy (wsV RX5 107 RX5 yX5_isSaying wsX5_isSaying) := goodIn_app (goodIn_of _ (by decide +kernel)) ggX5_copy_X5_isSaying
theorem dX5_copy_0 : decode cX5_copy 0 = .ok (.aload_n 0, 1) := by decide +kernel
theorem dX5_copy_1 : decode cX5_copy 1 = .ok (.iload_n 1, 1) := by decide +kernel
theorem dX5_copy_2 : decode cX5_copy 2 = .ok (.invokevirtual 107, 3) := by decide +kernel
theorem dX5_copy_5 : decode cX5_copy 5 = .ok (.ifCond .eq 29, 3) := by decide +kernel
theorem dX5_copy_8 : decode cX5_copy 8 = .ok (.aload_n 0, 1) := by decide +kernel
theorem dX5_copy_9 : decode cX5_copy 9 = .ok (.iload_n 2, 1) := by decide +kernel
theorem dX5_copy_10 : decode cX5_copy 10 = .ok (.invokevirtual 107, 3) := by decide +kernel
theorem dX5_copy_13 : decode cX5_copy 13 = .ok (.ifCond .eq 21, 3) := by decide +kernel
theorem dX5_copy_16 : decode cX5_copy 16 = .ok (.iload_n 2, 1) := by decide +kernel
theorem dX5_copy_17 : decode cX5_copy 17 = .ok (.iload_n 1, 1) := by decide +kernel
theorem dX5_copy_18 : decode cX5_copy 18 = .ok (.if_icmp .ge 16, 3) := by decide +kernel
theorem dX5_copy_21 : decode cX5_copy 21 = .ok (.aload_n 0, 1) := by decide +kernel
theorem dX5_copy_22 : decode cX5_copy 22 = .ok (.getfield 21, 3) := by decide +kernel
theorem dX5_copy_25 : decode cX5_copy 25 = .ok (.iload_n 1, 1) := by decide +kernel
theorem dX5_copy_26 : decode cX5_copy 26 = .ok (.aaload, 1) := by decide +kernel
theorem dX5_copy_27 : decode cX5_copy 27 = .ok (.getfield 110, 3) := by decide +kernel
theorem dX5_copy_30 : decode cX5_copy 30 = .ok (.iconst (-1), 1) := by decide +kernel
theorem dX5_copy_31 : decode cX5_copy 31 = .ok (.if_icmp .eq 5, 3) := by decide +kernel
theorem dX5_copy_34 : decode cX5_copy 34 = .ok (.iconst 0, 1) := by decide +kernel
theorem dX5_copy_35 : decode cX5_copy 35 = .ok (.ireturn, 1) := by decide +kernel
theorem dX5_copy_36 : decode cX5_copy 36 = .ok (.aload_n 0, 1) := by decide +kernel
theorem dX5_copy_37 : decode cX5_copy 37 = .ok (.getfield 21, 3) := by decide +kernel
theorem dX5_copy_40 : decode cX5_copy 40 = .ok (.iload_n 1, 1) := by decide +kernel
theorem dX5_copy_41 : decode cX5_copy 41 = .ok (.aaload, 1) := by decide +kernel
theorem dX5_copy_42 : decode cX5_copy 42 = .ok (.iload_n 2, 1) := by decide +kernel
theorem dX5_copy_43 : decode cX5_copy 43 = .ok (.putfield 110, 3) := by decide +kernel
theorem dX5_copy_46 : decode cX5_copy 46 = .ok (.iconst 1, 1) := by decide +kernel
theorem dX5_copy_47 : decode cX5_copy 47 = .ok (.ireturn, 1) := by decide +kernel
set_option maxRecDepth 20000 in
theorem ggX5_take_X5_isSaying : GoodIn wsX5_take wsX5_isSaying := goodIn_r _ [7, 8, 9, 10, 11, 12, 13, 14, 15, 16, 17, 18, 19] (by decide +kernel) (by decide +kernel)
set_option maxRecDepth 20000 in
theorem gX5_take_X5_isSaying : GoodIn wsX5_take (wsV RX5 107 RX5 yX5_isSaying wsX5_isSaying) := goodIn_app (goodIn_of _ (by decide +kernel)) ggX5_take_X5_isSaying
theorem dX5_take_0 : decode cX5_take 0 = .ok (.aload_n 0, 1) := by decide +kernel
theorem dX5_take_1 : decode cX5_take 1 = .ok (.iload_n 1, 1) := by decide +kernel
theorem dX5_take_2 : decode cX5_take 2 = .ok (.invokevirtual 107, 3) := by decide +kernel
theorem dX5_take_5 : decode cX5_take 5 = .ok (.ifCond .eq 16, 3) := by decide +kernel
theorem dX5_take_8 : decode cX5_take 8 = .ok (.aload_n 0, 1) := by decide +kernel
theorem dX5_take_9 : decode cX5_take 9 = .ok (.getfield 21, 3) := by decide +kernel
theorem dX5_take_12 : decode cX5_take 12 = .ok (.iload_n 1, 1) := by decide +kernel
theorem dX5_take_13 : decode cX5_take 13 = .ok (.aaload, 1) := by decide +kernel
theorem dX5_take_14 : decode cX5_take 14 = .ok (.getfield 113, 3) := by decide +kernel
theorem dX5_take_17 : decode cX5_take 17 = .ok (.iload_n 2, 1) := by decide +kernel
theorem dX5_take_18 : decode cX5_take 18 = .ok (.if_icmp .ne 5, 3) := by decide +kernel
theorem dX5_take_21 : decode cX5_take 21 = .ok (.iconst 0, 1) := by decide +kernel
theorem dX5_take_22 : decode cX5_take 22 = .ok (.ireturn, 1) := by decide +kernel
theorem dX5_take_23 : decode cX5_take 23 = .ok (.aload_n 0, 1) := by decide +kernel
theorem dX5_take_24 : decode cX5_take 24 = .ok (.getfield 21, 3) := by decide +kernel
theorem dX5_take_27 : decode cX5_take 27 = .ok (.iload_n 1, 1) := by decide +kernel
theorem dX5_take_28 : decode cX5_take 28 = .ok (.aaload, 1) := by decide +kernel
theorem dX5_take_29 : decode cX5_take 29 = .ok (.iload_n 2, 1) := by decide +kernel
theorem dX5_take_30 : decode cX5_take 30 = .ok (.putfield 113, 3) := by decide +kernel
theorem dX5_take_33 : decode cX5_take 33 = .ok (.iconst 1, 1) := by decide +kernel
theorem dX5_take_34 : decode cX5_take 34 = .ok (.ireturn, 1) := by decide +kernel
set_option maxRecDepth 20000 in
theorem ggX5_look_X5_isSaying : GoodIn wsX5_look wsX5_isSaying := goodIn_r _ [13, 14, 19, 20, 21, 22, 23, 24, 25, 26, 27, 28, 29] (by decide +kernel) (by decide +kernel)
set_option maxRecDepth 20000 in
theorem gX5_look_X5_isSaying : GoodIn wsX5_look (wsV RX5 107 RX5 yX5_isSaying wsX5_isSaying) := goodIn_app (goodIn_of _ (by decide +kernel)) ggX5_look_X5_isSaying
set_option maxRecDepth 20000 in
theorem ggX5_look_X5_rootOf : GoodIn wsX5_look wsX5_rootOf := goodIn_r _ [18, 1, 6, 19, 20, 21, 22, 23, 24, 25, 26, 27, 28, 29, 30, 31, 32, 33, 34, 35, 36, 37, 38] (by decide +kernel) (by decide +kernel)
set_option maxRecDepth 20000 in
theorem gX5_look_X5_rootOf : GoodIn wsX5_look (wsV RX5 126 RX5 yX5_rootOf wsX5_rootOf) := goodIn_app (goodIn_of _ (by decide +kernel)) ggX5_look_X5_rootOf
theorem dX5_look_0 : decode cX5_look 0 = .ok (.aload_n 0, 1) := by decide +kernel
theorem dX5_look_1 : decode cX5_look 1 = .ok (.iload_n 1, 1) := by decide +kernel
theorem dX5_look_2 : decode cX5_look 2 = .ok (.invokevirtual 107, 3) := by decide +kernel
theorem dX5_look_5 : decode cX5_look 5 = .ok (.ifCond .ne 5, 3) := by decide +kernel
theorem dX5_look_8 : decode cX5_look 8 = .ok (.iconst (-1), 1) := by decide +kernel
theorem dX5_look_9 : decode cX5_look 9 = .ok (.ireturn, 1) := by decide +kernel
theorem dX5_look_10 : decode cX5_look 10 = .ok (.aload_n 0, 1) := by decide +kernel
theorem dX5_look_11 : decode cX5_look 11 = .ok (.getfield 21, 3) := by decide +kernel
theorem dX5_look_14 : decode cX5_look 14 = .ok (.iload_n 1, 1) := by decide +kernel
theorem dX5_look_15 : decode cX5_look 15 = .ok (.aaload, 1) := by decide +kernel
theorem dX5_look_16 : decode cX5_look 16 = .ok (.astore_n 3, 1) := by decide +kernel
theorem dX5_look_17 : decode cX5_look 17 = .ok (.iload_n 2, 1) := by decide +kernel
theorem dX5_look_18 : decode cX5_look 18 = .ok (.tableswitch 89 0 6 #[42, 47, 52, 57, 70, 75, 81], 42) := by decide +kernel
theorem dX5_look_60 : decode cX5_look 60 = .ok (.aload_n 3, 1) := by decide +kernel
theorem dX5_look_61 : decode cX5_look 61 = .ok (.getfield 117, 3) := by decide +kernel
theorem dX5_look_64 : decode cX5_look 64 = .ok (.ireturn, 1) := by decide +kernel
theorem dX5_look_65 : decode cX5_look 65 = .ok (.aload_n 3, 1) := by decide +kernel
theorem dX5_look_66 : decode cX5_look 66 = .ok (.getfield 120, 3) := by decide +kernel
theorem dX5_look_69 : decode cX5_look 69 = .ok (.ireturn, 1) := by decide +kernel
theorem dX5_look_70 : decode cX5_look 70 = .ok (.aload_n 3, 1) := by decide +kernel
theorem dX5_look_71 : decode cX5_look 71 = .ok (.getfield 123, 3) := by decide +kernel
theorem dX5_look_74 : decode cX5_look 74 = .ok (.ireturn, 1) := by decide +kernel
theorem dX5_look_75 : decode cX5_look 75 = .ok (.aload_n 3, 1) := by decide +kernel
theorem dX5_look_76 : decode cX5_look 76 = .ok (.getfield 113, 3) := by decide +kernel
theorem dX5_look_79 : decode cX5_look 79 = .ok (.ifCond .eq 7, 3) := by decide +kernel
theorem dX5_look_82 : decode cX5_look 82 = .ok (.iconst 1, 1) := by decide +kernel
theorem dX5_look_83 : decode cX5_look 83 = .ok (.goto 4, 3) := by decide +kernel
theorem dX5_look_86 : decode cX5_look 86 = .ok (.iconst 0, 1) := by decide +kernel
theorem dX5_look_87 : decode cX5_look 87 = .ok (.ireturn, 1) := by decide +kernel
theorem dX5_look_88 : decode cX5_look 88 = .ok (.aload_n 3, 1) := by decide +kernel
theorem dX5_look_89 : decode cX5_look 89 = .ok (.getfield 110, 3) := by decide +kernel
theorem dX5_look_92 : decode cX5_look 92 = .ok (.ireturn, 1) := by decide +kernel
theorem dX5_look_93 : decode cX5_look 93 = .ok (.aload_n 0, 1) := by decide +kernel
theorem dX5_look_94 : decode cX5_look 94 = .ok (.iload_n 1, 1) := by decide +kernel
theorem dX5_look_95 : decode cX5_look 95 = .ok (.invokevirtual 126, 3) := by decide +kernel
theorem dX5_look_98 : decode cX5_look 98 = .ok (.ireturn, 1) := by decide +kernel
theorem dX5_look_99 : decode cX5_look 99 = .ok (.aload_n 3, 1) := by decide +kernel
theorem dX5_look_100 : decode cX5_look 100 = .ok (.getfield 80, 3) := by decide +kernel
theorem dX5_look_103 : decode cX5_look 103 = .ok (.getfield 101, 3) := by decide +kernel
theorem dX5_look_106 : decode cX5_look 106 = .ok (.ireturn, 1) := by decide +kernel
theorem dX5_look_107 : decode cX5_look 107 = .ok (.iconst (-1), 1) := by decide +kernel
theorem dX5_look_108 : decode cX5_look 108 = .ok (.ireturn, 1) := by decide +kernel
set_option maxRecDepth 20000 in
theorem ggX5_span_X5_isSaying : GoodIn wsX5_span wsX5_isSaying := goodIn_r _ [9, 10, 17, 18, 19, 20, 21, 22, 23, 24, 25, 26, 27] (by decide +kernel) (by decide +kernel)
set_option maxRecDepth 20000 in
theorem gX5_span_X5_isSaying : GoodIn wsX5_span (wsV RX5 107 RX5 yX5_isSaying wsX5_isSaying) := goodIn_app (goodIn_of _ (by decide +kernel)) ggX5_span_X5_isSaying
set_option maxRecDepth 20000 in
theorem ggX5_span_X4_has : GoodIn wsX5_span wsX4_has := goodIn_r _ [15, 16, 37, 38, 39] (by decide +kernel) (by decide +kernel)
set_option maxRecDepth 20000 in
theorem gX5_span_X4_has : GoodIn wsX5_span (wsV RX5 130 RX4 yX4_has wsX4_has) := goodIn_app (goodIn_of _ (by decide +kernel)) ggX5_span_X4_has
theorem dX5_span_0 : decode cX5_span 0 = .ok (.aload_n 0, 1) := by decide +kernel
theorem dX5_span_1 : decode cX5_span 1 = .ok (.iload_n 1, 1) := by decide +kernel
theorem dX5_span_2 : decode cX5_span 2 = .ok (.invokevirtual 107, 3) := by decide +kernel
theorem dX5_span_5 : decode cX5_span 5 = .ok (.ifCond .eq 19, 3) := by decide +kernel
theorem dX5_span_8 : decode cX5_span 8 = .ok (.aload_n 0, 1) := by decide +kernel
theorem dX5_span_9 : decode cX5_span 9 = .ok (.getfield 21, 3) := by decide +kernel
theorem dX5_span_12 : decode cX5_span 12 = .ok (.iload_n 1, 1) := by decide +kernel
theorem dX5_span_13 : decode cX5_span 13 = .ok (.aaload, 1) := by decide +kernel
theorem dX5_span_14 : decode cX5_span 14 = .ok (.getfield 80, 3) := by decide +kernel
theorem dX5_span_17 : decode cX5_span 17 = .ok (.iload_n 2, 1) := by decide +kernel
theorem dX5_span_18 : decode cX5_span 18 = .ok (.invokevirtual 130, 3) := by decide +kernel
theorem dX5_span_21 : decode cX5_span 21 = .ok (.ifCond .ne 5, 3) := by decide +kernel
theorem dX5_span_24 : decode cX5_span 24 = .ok (.iconst (-1), 1) := by decide +kernel
theorem dX5_span_25 : decode cX5_span 25 = .ok (.ireturn, 1) := by decide +kernel
theorem dX5_span_26 : decode cX5_span 26 = .ok (.aload_n 0, 1) := by decide +kernel
theorem dX5_span_27 : decode cX5_span 27 = .ok (.getfield 21, 3) := by decide +kernel
theorem dX5_span_30 : decode cX5_span 30 = .ok (.iload_n 1, 1) := by decide +kernel
theorem dX5_span_31 : decode cX5_span 31 = .ok (.aaload, 1) := by decide +kernel
theorem dX5_span_32 : decode cX5_span 32 = .ok (.getfield 80, 3) := by decide +kernel
theorem dX5_span_35 : decode cX5_span 35 = .ok (.astore 4, 2) := by decide +kernel
theorem dX5_span_37 : decode cX5_span 37 = .ok (.iload_n 3, 1) := by decide +kernel
theorem dX5_span_38 : decode cX5_span 38 = .ok (.ifCond .eq 13, 3) := by decide +kernel
theorem dX5_span_41 : decode cX5_span 41 = .ok (.aload 4, 2) := by decide +kernel
theorem dX5_span_43 : decode cX5_span 43 = .ok (.getfield 133, 3) := by decide +kernel
theorem dX5_span_46 : decode cX5_span 46 = .ok (.iload_n 2, 1) := by decide +kernel
theorem dX5_span_47 : decode cX5_span 47 = .ok (.iaload, 1) := by decide +kernel
theorem dX5_span_48 : decode cX5_span 48 = .ok (.goto 10, 3) := by decide +kernel
theorem dX5_span_51 : decode cX5_span 51 = .ok (.aload 4, 2) := by decide +kernel
theorem dX5_span_53 : decode cX5_span 53 = .ok (.getfield 136, 3) := by decide +kernel
theorem dX5_span_56 : decode cX5_span 56 = .ok (.iload_n 2, 1) := by decide +kernel
theorem dX5_span_57 : decode cX5_span 57 = .ok (.iaload, 1) := by decide +kernel
theorem dX5_span_58 : decode cX5_span 58 = .ok (.ireturn, 1) := by decide +kernel
set_option maxRecDepth 20000 in
theorem ggX5_first_X5_askAllWays : GoodIn wsX5_first wsX5_askAllWays := goodIn_r _ [7, 1, 8, 9, 10, 11, 12, 6, 13, 14, 15, 16, 17, 18, 19, 20, 21, 22, 23, 24, 25, 26, 27, 28, 29, 30, 31, 32, 33, 34, 35, 36, 37, 38, 39, 40, 41, 42, 43, 44, 45, 46, 47, 48, 49, 50, 51, 52, 53, 54, 55, 56, 57, 58, 59, 60, 61, 62, 63, 64, 65, 66, 67, 68, 69, 70, 71, 72, 73, 74, 75, 76, 77, 78, 79, 80, 81, 82, 83, 84, 85, 86, 87, 88, 89, 90, 91, 92, 93, 94, 95, 96, 97, 98, 99, 100, 101, 102, 103, 104, 105, 106, 107, 108, 109, 110, 111, 112, 113, 114, 115, 116, 117, 118, 119, 120, 121, 122, 123, 124, 125, 126, 127, 128, 129, 130, 131, 132, 133, 134, 135, 136, 137, 138, 139, 140, 141, 142, 143, 144, 145, 146, 147, 148, 149, 150, 151, 152] (by decide +kernel) (by decide +kernel)
set_option maxRecDepth 20000 in
theorem gX5_first_X5_askAllWays : GoodIn wsX5_first (wsV RX5 139 RX5 yX5_askAllWays wsX5_askAllWays) := goodIn_app (goodIn_of _ (by decide +kernel)) ggX5_first_X5_askAllWays
theorem dX5_first_0 : decode cX5_first 0 = .ok (.aload_n 0, 1) := by decide +kernel
theorem dX5_first_1 : decode cX5_first 1 = .ok (.iload_n 1, 1) := by decide +kernel
theorem dX5_first_2 : decode cX5_first 2 = .ok (.invokevirtual 139, 3) := by decide +kernel
theorem dX5_first_5 : decode cX5_first 5 = .ok (.istore_n 2, 1) := by decide +kernel
theorem dX5_first_6 : decode cX5_first 6 = .ok (.iload_n 2, 1) := by decide +kernel
theorem dX5_first_7 : decode cX5_first 7 = .ok (.iconst 1, 1) := by decide +kernel
theorem dX5_first_8 : decode cX5_first 8 = .ok (.if_icmp .ne 15, 3) := by decide +kernel
theorem dX5_first_11 : decode cX5_first 11 = .ok (.aload_n 0, 1) := by decide +kernel
theorem dX5_first_12 : decode cX5_first 12 = .ok (.getfield 29, 3) := by decide +kernel
theorem dX5_first_15 : decode cX5_first 15 = .ok (.getfield 142, 3) := by decide +kernel
theorem dX5_first_18 : decode cX5_first 18 = .ok (.iload_n 1, 1) := by decide +kernel
theorem dX5_first_19 : decode cX5_first 19 = .ok (.iaload, 1) := by decide +kernel
theorem dX5_first_20 : decode cX5_first 20 = .ok (.goto 4, 3) := by decide +kernel
theorem dX5_first_23 : decode cX5_first 23 = .ok (.iload_n 2, 1) := by decide +kernel
theorem dX5_first_24 : decode cX5_first 24 = .ok (.ireturn, 1) := by decide +kernel
set_option maxRecDepth 20000 in
theorem ggX5_last_X5_askAllWays : GoodIn wsX5_last wsX5_askAllWays := goodIn_r _ [7, 1, 8, 9, 10, 11, 12, 6, 13, 14, 15, 16, 17, 18, 19, 20, 21, 22, 23, 24, 25, 26, 27, 28, 29, 30, 31, 32, 33, 34, 35, 36, 37, 38, 39, 40, 41, 42, 43, 44, 45, 46, 47, 48, 49, 50, 51, 52, 53, 54, 55, 56, 57, 58, 59, 60, 61, 62, 63, 64, 65, 66, 67, 68, 69, 70, 71, 72, 73, 74, 75, 76, 77, 78, 79, 80, 81, 82, 83, 84, 85, 86, 87, 88, 89, 90, 91, 92, 93, 94, 95, 96, 97, 98, 99, 100, 101, 102, 103, 104, 105, 106, 107, 108, 109, 110, 111, 112, 113, 114, 115, 116, 117, 118, 119, 120, 121, 122, 123, 124, 125, 126, 127, 128, 129, 130, 131, 132, 133, 134, 135, 136, 137, 138, 139, 140, 141, 142, 143, 144, 145, 146, 147, 148, 149, 150, 151, 152] (by decide +kernel) (by decide +kernel)
set_option maxRecDepth 20000 in
theorem gX5_last_X5_askAllWays : GoodIn wsX5_last (wsV RX5 139 RX5 yX5_askAllWays wsX5_askAllWays) := goodIn_app (goodIn_of _ (by decide +kernel)) ggX5_last_X5_askAllWays
theorem dX5_last_0 : decode cX5_last 0 = .ok (.aload_n 0, 1) := by decide +kernel
theorem dX5_last_1 : decode cX5_last 1 = .ok (.iload_n 1, 1) := by decide +kernel
theorem dX5_last_2 : decode cX5_last 2 = .ok (.invokevirtual 139, 3) := by decide +kernel
theorem dX5_last_5 : decode cX5_last 5 = .ok (.istore_n 2, 1) := by decide +kernel
theorem dX5_last_6 : decode cX5_last 6 = .ok (.iload_n 2, 1) := by decide +kernel
theorem dX5_last_7 : decode cX5_last 7 = .ok (.iconst 1, 1) := by decide +kernel
theorem dX5_last_8 : decode cX5_last 8 = .ok (.if_icmp .ne 15, 3) := by decide +kernel
theorem dX5_last_11 : decode cX5_last 11 = .ok (.aload_n 0, 1) := by decide +kernel
theorem dX5_last_12 : decode cX5_last 12 = .ok (.getfield 29, 3) := by decide +kernel
theorem dX5_last_15 : decode cX5_last 15 = .ok (.getfield 145, 3) := by decide +kernel
theorem dX5_last_18 : decode cX5_last 18 = .ok (.iload_n 1, 1) := by decide +kernel
theorem dX5_last_19 : decode cX5_last 19 = .ok (.iaload, 1) := by decide +kernel
theorem dX5_last_20 : decode cX5_last 20 = .ok (.goto 4, 3) := by decide +kernel
theorem dX5_last_23 : decode cX5_last 23 = .ok (.iload_n 2, 1) := by decide +kernel
theorem dX5_last_24 : decode cX5_last 24 = .ok (.ireturn, 1) := by decide +kernel
set_option maxRecDepth 20000 in
theorem ggX5_can_X5_isEvent : GoodIn wsX5_can wsX5_isEvent := goodIn_r _ [8, 2, 120, 121, 122, 123, 124, 125, 126, 127, 128, 129, 130] (by decide +kernel) (by decide +kernel)
set_option maxRecDepth 20000 in
theorem gX5_can_X5_isEvent : GoodIn wsX5_can (wsV RX5 77 RX5 yX5_isEvent wsX5_isEvent) := goodIn_app (goodIn_of _ (by decide +kernel)) ggX5_can_X5_isEvent
set_option maxRecDepth 20000 in
theorem ggX5_can_X5_isDay : GoodIn wsX5_can wsX5_isDay := goodIn_r _ [11, 12] (by decide +kernel) (by decide +kernel)
set_option maxRecDepth 20000 in
theorem gX5_can_X5_isDay : GoodIn wsX5_can (va_wsS RX5 148 yX5_isDay wsX5_isDay) := goodIn_app (goodIn_of _ (by decide +kernel)) ggX5_can_X5_isDay
set_option maxRecDepth 20000 in
theorem ggX5_can_X2_begin : GoodIn wsX5_can wsX2_begin := goodIn_r _ [17, 18, 19, 20, 21, 22, 23, 24, 131, 132, 133, 134, 135, 136, 137, 138, 139, 140, 141, 142, 143, 144] (by decide +kernel) (by decide +kernel)
set_option maxRecDepth 20000 in
theorem gX5_can_X2_begin : GoodIn wsX5_can (wsV RX5 151 RX2 yX2_begin wsX2_begin) := goodIn_app (goodIn_of _ (by decide +kernel)) ggX5_can_X2_begin
set_option maxRecDepth 20000 in
theorem ggX5_can_X5_takenSet : GoodIn wsX5_can wsX5_takenSet := goodIn_r _ [28, 29, 3, 30, 120, 121, 122, 123, 124, 125, 126, 127, 128, 129, 130, 145, 146, 147, 148, 149, 150, 151, 152, 153] (by decide +kernel) (by decide +kernel)
set_option maxRecDepth 20000 in
theorem gX5_can_X5_takenSet : GoodIn wsX5_can (wsV RX5 154 RX5 yX5_takenSet wsX5_takenSet) := goodIn_app (goodIn_of _ (by decide +kernel)) ggX5_can_X5_takenSet
set_option maxRecDepth 20000 in
theorem ggX5_can_X2_lay : GoodIn wsX5_can wsX2_lay := goodIn_r _ [34, 35, 36, 37, 38, 39, 40, 41, 16, 42, 22, 43, 44, 45, 46, 47, 48, 49, 50, 51, 52, 53, 54, 55, 56, 57, 20, 58, 59, 60, 19, 21, 61, 62, 63, 64, 65, 66, 67, 68, 18, 69, 70, 71, 72, 73, 74, 75, 76, 77, 78, 79, 80, 81, 82, 83, 84, 85, 86, 87, 88, 89, 90, 91, 145, 146, 147, 148, 149, 150, 151, 152, 153, 131, 132, 133, 134, 135, 136, 137, 138, 139, 140, 141, 142, 143, 144, 154, 155, 156] (by decide +kernel) (by decide +kernel)
set_option maxRecDepth 20000 in
theorem gX5_can_X2_lay : GoodIn wsX5_can (wsV RX5 158 RX2 yX2_lay wsX2_lay) := goodIn_app (goodIn_of _ (by decide +kernel)) ggX5_can_X2_lay
set_option maxRecDepth 20000 in
theorem ggX5_can_X2_find : GoodIn wsX5_can wsX2_find := goodIn_r _ [95, 22, 96, 46, 47, 48, 49, 50, 51, 52, 53, 54, 55, 56, 57, 20, 58, 59, 60, 19, 21, 61, 62, 70, 71, 72, 16, 73, 43, 74, 75, 76, 77, 78, 79, 80, 131, 132, 133, 134, 135, 136, 137, 138, 139, 140, 141, 142, 143, 144, 154, 155, 156] (by decide +kernel) (by decide +kernel)
set_option maxRecDepth 20000 in
theorem gX5_can_X2_find : GoodIn wsX5_can (wsV RX5 162 RX2 yX2_find wsX2_find) := goodIn_app (goodIn_of _ (by decide +kernel)) ggX5_can_X2_find
set_option maxRecDepth 20000 in
theorem ggX5_can_X2_run : GoodIn wsX5_can wsX2_run := goodIn_r _ [100, 101, 102, 24, 103, 104, 105, 16, 106, 22, 43, 107, 23, 38, 108, 109, 110, 111, 112, 113, 89, 90, 114, 18, 19, 20, 21, 115, 91, 57, 58, 116, 117, 118, 119, 45, 131, 132, 133, 134, 135, 136, 137, 138, 139, 140, 141, 142, 143, 144, 154, 155, 156] (by decide +kernel) (by decide +kernel)
set_option maxRecDepth 20000 in
theorem gX5_can_X2_run : GoodIn wsX5_can (wsV RX5 166 RX2 yX2_run wsX2_run) := goodIn_app (goodIn_of _ (by decide +kernel)) ggX5_can_X2_run
theorem dX5_can_0 : decode cX5_can 0 = .ok (.aload_n 0, 1) := by decide +kernel
theorem dX5_can_1 : decode cX5_can 1 = .ok (.iload_n 1, 1) := by decide +kernel
theorem dX5_can_2 : decode cX5_can 2 = .ok (.invokevirtual 77, 3) := by decide +kernel
theorem dX5_can_5 : decode cX5_can 5 = .ok (.ifCond .eq 10, 3) := by decide +kernel
theorem dX5_can_8 : decode cX5_can 8 = .ok (.iload_n 2, 1) := by decide +kernel
theorem dX5_can_9 : decode cX5_can 9 = .ok (.invokestatic 148, 3) := by decide +kernel
theorem dX5_can_12 : decode cX5_can 12 = .ok (.ifCond .ne 5, 3) := by decide +kernel
theorem dX5_can_15 : decode cX5_can 15 = .ok (.iconst (-1), 1) := by decide +kernel
theorem dX5_can_16 : decode cX5_can 16 = .ok (.ireturn, 1) := by decide +kernel
theorem dX5_can_17 : decode cX5_can 17 = .ok (.aload_n 0, 1) := by decide +kernel
theorem dX5_can_18 : decode cX5_can 18 = .ok (.getfield 29, 3) := by decide +kernel
theorem dX5_can_21 : decode cX5_can 21 = .ok (.aload_n 0, 1) := by decide +kernel
theorem dX5_can_22 : decode cX5_can 22 = .ok (.getfield 71, 3) := by decide +kernel
theorem dX5_can_25 : decode cX5_can 25 = .ok (.invokevirtual 151, 3) := by decide +kernel
theorem dX5_can_28 : decode cX5_can 28 = .ok (.aload_n 0, 1) := by decide +kernel
theorem dX5_can_29 : decode cX5_can 29 = .ok (.getfield 29, 3) := by decide +kernel
theorem dX5_can_32 : decode cX5_can 32 = .ok (.aload_n 0, 1) := by decide +kernel
theorem dX5_can_33 : decode cX5_can 33 = .ok (.getfield 21, 3) := by decide +kernel
theorem dX5_can_36 : decode cX5_can 36 = .ok (.aload_n 0, 1) := by decide +kernel
theorem dX5_can_37 : decode cX5_can 37 = .ok (.invokevirtual 154, 3) := by decide +kernel
theorem dX5_can_40 : decode cX5_can 40 = .ok (.invokevirtual 158, 3) := by decide +kernel
theorem dX5_can_43 : decode cX5_can 43 = .ok (.aload_n 0, 1) := by decide +kernel
theorem dX5_can_44 : decode cX5_can 44 = .ok (.getfield 29, 3) := by decide +kernel
theorem dX5_can_47 : decode cX5_can 47 = .ok (.iload_n 1, 1) := by decide +kernel
theorem dX5_can_48 : decode cX5_can 48 = .ok (.iload_n 2, 1) := by decide +kernel
theorem dX5_can_49 : decode cX5_can 49 = .ok (.invokevirtual 162, 3) := by decide +kernel
theorem dX5_can_52 : decode cX5_can 52 = .ok (.aload_n 0, 1) := by decide +kernel
theorem dX5_can_53 : decode cX5_can 53 = .ok (.getfield 29, 3) := by decide +kernel
theorem dX5_can_56 : decode cX5_can 56 = .ok (.iconst 1, 1) := by decide +kernel
theorem dX5_can_57 : decode cX5_can 57 = .ok (.invokevirtual 166, 3) := by decide +kernel
theorem dX5_can_60 : decode cX5_can 60 = .ok (.ireturn, 1) := by decide +kernel
set_option maxRecDepth 20000 in
theorem ggX5_agrees_X2_begin : GoodIn wsX5_agrees wsX2_begin := goodIn_r _ [7, 8, 9, 10, 11, 12, 13, 14, 122, 123, 124, 125, 126, 127, 128, 129, 130, 131, 132, 133, 134, 135] (by decide +kernel) (by decide +kernel)
set_option maxRecDepth 20000 in
theorem gX5_agrees_X2_begin : GoodIn wsX5_agrees (wsV RX5 151 RX2 yX2_begin wsX2_begin) := goodIn_app (goodIn_of _ (by decide +kernel)) ggX5_agrees_X2_begin
set_option maxRecDepth 20000 in
theorem ggX5_agrees_X5_takenSet : GoodIn wsX5_agrees wsX5_takenSet := goodIn_r _ [19, 20, 21, 22, 111, 112, 113, 114, 115, 116, 117, 118, 119, 120, 121, 136, 137, 138, 139, 140, 141, 142, 143, 144] (by decide +kernel) (by decide +kernel)
set_option maxRecDepth 20000 in
theorem gX5_agrees_X5_takenSet : GoodIn wsX5_agrees (wsV RX5 154 RX5 yX5_takenSet wsX5_takenSet) := goodIn_app (goodIn_of _ (by decide +kernel)) ggX5_agrees_X5_takenSet
set_option maxRecDepth 20000 in
theorem ggX5_agrees_X5_askSet : GoodIn wsX5_agrees wsX5_askSet := goodIn_r _ [26, 1, 21, 27, 28, 29, 6, 30, 31, 32, 33, 34, 35, 36, 37, 38, 12, 39, 40, 41, 42, 43, 44, 45, 46, 47, 48, 49, 50, 51, 52, 53, 10, 54, 55, 56, 9, 11, 57, 58, 59, 60, 61, 62, 63, 64, 8, 65, 66, 67, 68, 69, 70, 71, 72, 73, 74, 75, 76, 77, 78, 79, 80, 81, 82, 83, 84, 85, 86, 87, 88, 89, 90, 91, 92, 93, 14, 94, 95, 96, 97, 98, 13, 99, 100, 101, 102, 103, 104, 105, 106, 107, 108, 109, 110, 111, 112, 113, 114, 115, 116, 117, 118, 119, 120, 121, 136, 137, 138, 139, 140, 141, 142, 143, 144, 122, 123, 124, 125, 126, 127, 128, 129, 130, 131, 132, 133, 134, 135, 145, 146, 147] (by decide +kernel) (by decide +kernel)
set_option maxRecDepth 20000 in
theorem gX5_agrees_X5_askSet : GoodIn wsX5_agrees (wsV RX5 170 RX5 yX5_askSet wsX5_askSet) := goodIn_app (goodIn_of _ (by decide +kernel)) ggX5_agrees_X5_askSet
theorem dX5_agrees_0 : decode cX5_agrees 0 = .ok (.aload_n 0, 1) := by decide +kernel
theorem dX5_agrees_1 : decode cX5_agrees 1 = .ok (.getfield 29, 3) := by decide +kernel
theorem dX5_agrees_4 : decode cX5_agrees 4 = .ok (.aload_n 0, 1) := by decide +kernel
theorem dX5_agrees_5 : decode cX5_agrees 5 = .ok (.getfield 71, 3) := by decide +kernel
theorem dX5_agrees_8 : decode cX5_agrees 8 = .ok (.invokevirtual 151, 3) := by decide +kernel
theorem dX5_agrees_11 : decode cX5_agrees 11 = .ok (.aload_n 0, 1) := by decide +kernel
theorem dX5_agrees_12 : decode cX5_agrees 12 = .ok (.aload_n 0, 1) := by decide +kernel
theorem dX5_agrees_13 : decode cX5_agrees 13 = .ok (.invokevirtual 154, 3) := by decide +kernel
theorem dX5_agrees_16 : decode cX5_agrees 16 = .ok (.invokevirtual 170, 3) := by decide +kernel
theorem dX5_agrees_19 : decode cX5_agrees 19 = .ok (.ireturn, 1) := by decide +kernel
set_option maxRecDepth 20000 in
theorem ggX5_quarrel_X5_takenSet : GoodIn wsX5_quarrel wsX5_takenSet := goodIn_r _ [8, 3, 9, 10, 115, 116, 117, 118, 119, 120, 121, 122, 123, 124, 125, 126, 127, 128, 129, 130, 131, 132, 133, 134] (by decide +kernel) (by decide +kernel)
set_option maxRecDepth 20000 in
theorem gX5_quarrel_X5_takenSet : GoodIn wsX5_quarrel (wsV RX5 154 RX5 yX5_takenSet wsX5_takenSet) := goodIn_app (goodIn_of _ (by decide +kernel)) ggX5_quarrel_X5_takenSet
set_option maxRecDepth 20000 in
theorem ggX5_quarrel_X2_begin : GoodIn wsX5_quarrel wsX2_begin := goodIn_r _ [15, 16, 17, 18, 19, 20, 21, 22, 135, 136, 137, 138, 139, 140, 141, 142, 143, 144, 145, 146, 147, 148] (by decide +kernel) (by decide +kernel)
set_option maxRecDepth 20000 in
theorem gX5_quarrel_X2_begin : GoodIn wsX5_quarrel (wsV RX5 151 RX2 yX2_begin wsX2_begin) := goodIn_app (goodIn_of _ (by decide +kernel)) ggX5_quarrel_X2_begin
set_option maxRecDepth 20000 in
theorem ggX5_quarrel_X5_askSet : GoodIn wsX5_quarrel wsX5_askSet := goodIn_r _ [26, 1, 9, 27, 28, 29, 14, 30, 31, 32, 33, 34, 35, 36, 37, 38, 20, 39, 40, 41, 42, 43, 44, 45, 46, 47, 48, 49, 50, 51, 52, 53, 18, 54, 55, 56, 17, 19, 57, 58, 59, 60, 61, 62, 63, 64, 16, 65, 66, 67, 68, 69, 70, 71, 72, 73, 74, 75, 76, 77, 78, 79, 80, 81, 82, 83, 84, 85, 86, 87, 88, 89, 90, 91, 92, 93, 22, 94, 95, 96, 97, 98, 21, 99, 100, 101, 102, 103, 104, 105, 106, 107, 108, 109, 110, 115, 116, 117, 118, 119, 120, 121, 122, 123, 124, 125, 126, 127, 128, 129, 130, 131, 132, 133, 134, 135, 136, 137, 138, 139, 140, 141, 142, 143, 144, 145, 146, 147, 148, 149, 150, 151] (by decide +kernel) (by decide +kernel)
set_option maxRecDepth 20000 in
theorem gX5_quarrel_X5_askSet : GoodIn wsX5_quarrel (wsV RX5 170 RX5 yX5_askSet wsX5_askSet) := goodIn_app (goodIn_of _ (by decide +kernel)) ggX5_quarrel_X5_askSet
set_option maxRecDepth 20000 in
theorem ggX5_quarrel_X5_quarrelWith : GoodIn wsX5_quarrel wsX5_quarrelWith := goodIn_r _ [114, 3, 23, 24, 25, 7, 26, 1, 9, 27, 28, 29, 14, 30, 31, 32, 33, 34, 35, 36, 37, 38, 20, 39, 40, 41, 42, 43, 44, 45, 46, 47, 48, 49, 50, 51, 52, 53, 18, 54, 55, 56, 17, 19, 57, 58, 59, 60, 61, 62, 63, 64, 16, 65, 66, 67, 68, 69, 70, 71, 72, 73, 74, 75, 76, 77, 78, 79, 80, 81, 82, 83, 84, 85, 86, 87, 88, 89, 90, 91, 92, 93, 22, 94, 95, 96, 97, 98, 21, 99, 100, 101, 102, 103, 104, 105, 106, 107, 108, 109, 110, 111, 112, 113, 115, 116, 117, 118, 119, 120, 121, 122, 123, 124, 125, 126, 127, 128, 129, 130, 131, 132, 133, 134, 135, 136, 137, 138, 139, 140, 141, 142, 143, 144, 145, 146, 147, 148, 149, 150, 151] (by decide +kernel) (by decide +kernel)
set_option maxRecDepth 20000 in
theorem gX5_quarrel_X5_quarrelWith : GoodIn wsX5_quarrel (wsV RX5 173 RX5 yX5_quarrelWith wsX5_quarrelWith) := goodIn_app (goodIn_of _ (by decide +kernel)) ggX5_quarrel_X5_quarrelWith
theorem dX5_quarrel_0 : decode cX5_quarrel 0 = .ok (.aload_n 0, 1) := by decide +kernel
theorem dX5_quarrel_1 : decode cX5_quarrel 1 = .ok (.invokevirtual 154, 3) := by decide +kernel
theorem dX5_quarrel_4 : decode cX5_quarrel 4 = .ok (.istore_n 1, 1) := by decide +kernel
theorem dX5_quarrel_5 : decode cX5_quarrel 5 = .ok (.aload_n 0, 1) := by decide +kernel
theorem dX5_quarrel_6 : decode cX5_quarrel 6 = .ok (.getfield 29, 3) := by decide +kernel
theorem dX5_quarrel_9 : decode cX5_quarrel 9 = .ok (.aload_n 0, 1) := by decide +kernel
theorem dX5_quarrel_10 : decode cX5_quarrel 10 = .ok (.getfield 71, 3) := by decide +kernel
theorem dX5_quarrel_13 : decode cX5_quarrel 13 = .ok (.invokevirtual 151, 3) := by decide +kernel
theorem dX5_quarrel_16 : decode cX5_quarrel 16 = .ok (.aload_n 0, 1) := by decide +kernel
theorem dX5_quarrel_17 : decode cX5_quarrel 17 = .ok (.iload_n 1, 1) := by decide +kernel
theorem dX5_quarrel_18 : decode cX5_quarrel 18 = .ok (.invokevirtual 170, 3) := by decide +kernel
theorem dX5_quarrel_21 : decode cX5_quarrel 21 = .ok (.istore_n 2, 1) := by decide +kernel
theorem dX5_quarrel_22 : decode cX5_quarrel 22 = .ok (.iload_n 2, 1) := by decide +kernel
theorem dX5_quarrel_23 : decode cX5_quarrel 23 = .ok (.ifCond .eq 15, 3) := by decide +kernel
theorem dX5_quarrel_26 : decode cX5_quarrel 26 = .ok (.iload_n 2, 1) := by decide +kernel
theorem dX5_quarrel_27 : decode cX5_quarrel 27 = .ok (.iconst 1, 1) := by decide +kernel
theorem dX5_quarrel_28 : decode cX5_quarrel 28 = .ok (.if_icmp .ne 7, 3) := by decide +kernel
theorem dX5_quarrel_31 : decode cX5_quarrel 31 = .ok (.iconst 0, 1) := by decide +kernel
theorem dX5_quarrel_32 : decode cX5_quarrel 32 = .ok (.goto 5, 3) := by decide +kernel
theorem dX5_quarrel_35 : decode cX5_quarrel 35 = .ok (.bipush (-2), 2) := by decide +kernel
theorem dX5_quarrel_37 : decode cX5_quarrel 37 = .ok (.ireturn, 1) := by decide +kernel
theorem dX5_quarrel_38 : decode cX5_quarrel 38 = .ok (.iconst 1, 1) := by decide +kernel
theorem dX5_quarrel_39 : decode cX5_quarrel 39 = .ok (.istore_n 3, 1) := by decide +kernel
theorem dX5_quarrel_40 : decode cX5_quarrel 40 = .ok (.iload_n 3, 1) := by decide +kernel
theorem dX5_quarrel_41 : decode cX5_quarrel 41 = .ok (.aload_n 0, 1) := by decide +kernel
theorem dX5_quarrel_42 : decode cX5_quarrel 42 = .ok (.getfield 74, 3) := by decide +kernel
theorem dX5_quarrel_45 : decode cX5_quarrel 45 = .ok (.if_icmp .gt 27, 3) := by decide +kernel
theorem dX5_quarrel_48 : decode cX5_quarrel 48 = .ok (.aload_n 0, 1) := by decide +kernel
theorem dX5_quarrel_49 : decode cX5_quarrel 49 = .ok (.iconst 0, 1) := by decide +kernel
theorem dX5_quarrel_50 : decode cX5_quarrel 50 = .ok (.iload_n 3, 1) := by decide +kernel
theorem dX5_quarrel_51 : decode cX5_quarrel 51 = .ok (.iconst 0, 1) := by decide +kernel
theorem dX5_quarrel_52 : decode cX5_quarrel 52 = .ok (.iload_n 1, 1) := by decide +kernel
theorem dX5_quarrel_53 : decode cX5_quarrel 53 = .ok (.invokevirtual 173, 3) := by decide +kernel
theorem dX5_quarrel_56 : decode cX5_quarrel 56 = .ok (.istore 4, 2) := by decide +kernel
theorem dX5_quarrel_58 : decode cX5_quarrel 58 = .ok (.iload 4, 2) := by decide +kernel
theorem dX5_quarrel_60 : decode cX5_quarrel 60 = .ok (.ifCond .eq 6, 3) := by decide +kernel
theorem dX5_quarrel_63 : decode cX5_quarrel 63 = .ok (.iload 4, 2) := by decide +kernel
theorem dX5_quarrel_65 : decode cX5_quarrel 65 = .ok (.ireturn, 1) := by decide +kernel
theorem dX5_quarrel_66 : decode cX5_quarrel 66 = .ok (.iinc 3 1, 3) := by decide +kernel
theorem dX5_quarrel_69 : decode cX5_quarrel 69 = .ok (.goto (-29), 3) := by decide +kernel
theorem dX5_quarrel_72 : decode cX5_quarrel 72 = .ok (.iconst 0, 1) := by decide +kernel
theorem dX5_quarrel_73 : decode cX5_quarrel 73 = .ok (.ireturn, 1) := by decide +kernel
set_option maxRecDepth 20000 in
theorem ggX5_slips_X5_takenSet : GoodIn wsX5_slips wsX5_takenSet := goodIn_r _ [10, 11, 12, 13, 170, 171, 172, 173, 174, 175, 176, 177, 178, 179, 180, 190, 191, 192, 193, 194, 195, 196, 197, 198] (by decide +kernel) (by decide +kernel)
set_option maxRecDepth 20000 in
theorem gX5_slips_X5_takenSet : GoodIn wsX5_slips (wsV RX5 154 RX5 yX5_takenSet wsX5_takenSet) := goodIn_app (goodIn_of _ (by decide +kernel)) ggX5_slips_X5_takenSet
set_option maxRecDepth 20000 in
theorem ggX5_slips_X2_begin : GoodIn wsX5_slips wsX2_begin := goodIn_r _ [18, 19, 20, 21, 22, 23, 24, 25, 199, 200, 201, 202, 203, 204, 205, 206, 207, 208, 209, 210, 211, 212] (by decide +kernel) (by decide +kernel)
set_option maxRecDepth 20000 in
theorem gX5_slips_X2_begin : GoodIn wsX5_slips (wsV RX5 151 RX2 yX2_begin wsX2_begin) := goodIn_app (goodIn_of _ (by decide +kernel)) ggX5_slips_X2_begin
set_option maxRecDepth 20000 in
theorem ggX5_slips_X5_gatherGroups : GoodIn wsX5_slips wsX5_gatherGroups := goodIn_r _ [29, 3, 11, 12, 30, 31, 32, 33, 34, 35, 36, 37, 38, 39, 40, 41, 9, 42, 43, 44, 45, 46, 47, 48, 49, 50, 170, 171, 172, 173, 174, 175, 176, 177, 178, 179, 180, 190, 191, 192, 193, 194, 195, 196, 197, 198, 181, 182, 183, 184, 185, 186, 187, 188, 189] (by decide +kernel) (by decide +kernel)
set_option maxRecDepth 20000 in
theorem gX5_slips_X5_gatherGroups : GoodIn wsX5_slips (wsV RX5 176 RX5 yX5_gatherGroups wsX5_gatherGroups) := goodIn_app (goodIn_of _ (by decide +kernel)) ggX5_slips_X5_gatherGroups
set_option maxRecDepth 20000 in
theorem ggX5_slips_X3_weightOf : GoodIn wsX5_slips wsX3_weightOf := goodIn_r _ [54, 36, 50, 181, 182, 183, 184, 185, 186, 187, 188, 189] (by decide +kernel) (by decide +kernel)
set_option maxRecDepth 20000 in
theorem gX5_slips_X3_weightOf : GoodIn wsX5_slips (wsV RX5 182 RX3 yX3_weightOf wsX3_weightOf) := goodIn_app (goodIn_of _ (by decide +kernel)) ggX5_slips_X3_weightOf
set_option maxRecDepth 20000 in
theorem ggX5_slips_X3_tooHeavy : GoodIn wsX5_slips wsX3_tooHeavy := goodIn_r _ [58, 37, 38, 181, 182, 183, 184, 185, 186, 187, 188, 189] (by decide +kernel) (by decide +kernel)
set_option maxRecDepth 20000 in
theorem gX5_slips_X3_tooHeavy : GoodIn wsX5_slips (wsV RX5 185 RX3 yX3_tooHeavy wsX3_tooHeavy) := goodIn_app (goodIn_of _ (by decide +kernel)) ggX5_slips_X3_tooHeavy
set_option maxRecDepth 20000 in
theorem ggX5_slips_X3_sayingsOf : GoodIn wsX5_slips wsX3_sayingsOf := goodIn_r _ [62, 36, 49, 181, 182, 183, 184, 185, 186, 187, 188, 189] (by decide +kernel) (by decide +kernel)
set_option maxRecDepth 20000 in
theorem gX5_slips_X3_sayingsOf : GoodIn wsX5_slips (wsV RX5 188 RX3 yX3_sayingsOf wsX3_sayingsOf) := goodIn_app (goodIn_of _ (by decide +kernel)) ggX5_slips_X3_sayingsOf
set_option maxRecDepth 20000 in
theorem ggX5_slips_X5_askSet : GoodIn wsX5_slips wsX5_askSet := goodIn_r _ [66, 1, 12, 67, 68, 69, 17, 70, 71, 72, 73, 74, 75, 76, 77, 78, 23, 79, 80, 81, 82, 83, 84, 85, 86, 87, 88, 89, 90, 91, 92, 93, 21, 94, 95, 96, 20, 22, 97, 98, 99, 100, 101, 102, 103, 104, 19, 105, 106, 107, 108, 109, 110, 111, 112, 113, 114, 115, 116, 117, 118, 119, 120, 121, 122, 123, 124, 125, 126, 127, 128, 129, 130, 131, 132, 133, 25, 134, 135, 136, 137, 138, 24, 139, 140, 141, 142, 143, 144, 145, 146, 147, 148, 149, 150, 170, 171, 172, 173, 174, 175, 176, 177, 178, 179, 180, 190, 191, 192, 193, 194, 195, 196, 197, 198, 199, 200, 201, 202, 203, 204, 205, 206, 207, 208, 209, 210, 211, 212, 213, 214, 215] (by decide +kernel) (by decide +kernel)
set_option maxRecDepth 20000 in
theorem gX5_slips_X5_askSet : GoodIn wsX5_slips (wsV RX5 170 RX5 yX5_askSet wsX5_askSet) := goodIn_app (goodIn_of _ (by decide +kernel)) ggX5_slips_X5_askSet
set_option maxRecDepth 20000 in
theorem ggX5_slips_X3_rootsOf : GoodIn wsX5_slips wsX3_rootsOf := goodIn_r _ [154, 36, 48, 181, 182, 183, 184, 185, 186, 187, 188, 189] (by decide +kernel) (by decide +kernel)
set_option maxRecDepth 20000 in
theorem gX5_slips_X3_rootsOf : GoodIn wsX5_slips (wsV RX5 191 RX3 yX3_rootsOf wsX3_rootsOf) := goodIn_app (goodIn_of _ (by decide +kernel)) ggX5_slips_X3_rootsOf
set_option maxRecDepth 20000 in
theorem ggX5_slips_X3_note : GoodIn wsX5_slips wsX3_note := goodIn_r _ [158, 37, 38, 159, 181, 182, 183, 184, 185, 186, 187, 188, 189] (by decide +kernel) (by decide +kernel)
set_option maxRecDepth 20000 in
theorem gX5_slips_X3_note : GoodIn wsX5_slips (wsV RX5 194 RX3 yX3_note wsX3_note) := goodIn_app (goodIn_of _ (by decide +kernel)) ggX5_slips_X3_note
set_option maxRecDepth 20000 in
theorem ggX5_slips_X3_tell : GoodIn wsX5_slips wsX3_tell := goodIn_r _ [163, 159, 164, 37, 165, 166, 167, 168, 169, 181, 182, 183, 184, 185, 186, 187, 188, 189] (by decide +kernel) (by decide +kernel)
set_option maxRecDepth 20000 in
theorem gX5_slips_X3_tell : GoodIn wsX5_slips (wsV RX5 197 RX3 yX3_tell wsX3_tell) := goodIn_app (goodIn_of _ (by decide +kernel)) ggX5_slips_X3_tell
theorem dX5_slips_0 : decode cX5_slips 0 = .ok (.aload_n 0, 1) := by decide +kernel
theorem dX5_slips_1 : decode cX5_slips 1 = .ok (.invokevirtual 154, 3) := by decide +kernel
theorem dX5_slips_4 : decode cX5_slips 4 = .ok (.istore_n 1, 1) := by decide +kernel
theorem dX5_slips_5 : decode cX5_slips 5 = .ok (.aload_n 0, 1) := by decide +kernel
theorem dX5_slips_6 : decode cX5_slips 6 = .ok (.getfield 29, 3) := by decide +kernel
theorem dX5_slips_9 : decode cX5_slips 9 = .ok (.aload_n 0, 1) := by decide +kernel
theorem dX5_slips_10 : decode cX5_slips 10 = .ok (.getfield 71, 3) := by decide +kernel
theorem dX5_slips_13 : decode cX5_slips 13 = .ok (.invokevirtual 151, 3) := by decide +kernel
theorem dX5_slips_16 : decode cX5_slips 16 = .ok (.aload_n 0, 1) := by decide +kernel
theorem dX5_slips_17 : decode cX5_slips 17 = .ok (.iload_n 1, 1) := by decide +kernel
theorem dX5_slips_18 : decode cX5_slips 18 = .ok (.invokevirtual 176, 3) := by decide +kernel
theorem dX5_slips_21 : decode cX5_slips 21 = .ok (.iconst 1, 1) := by decide +kernel
theorem dX5_slips_22 : decode cX5_slips 22 = .ok (.aload_n 0, 1) := by decide +kernel
theorem dX5_slips_23 : decode cX5_slips 23 = .ok (.getfield 36, 3) := by decide +kernel
theorem dX5_slips_26 : decode cX5_slips 26 = .ok (.getfield 179, 3) := by decide +kernel
theorem dX5_slips_29 : decode cX5_slips 29 = .ok (.ishl, 1) := by decide +kernel
theorem dX5_slips_30 : decode cX5_slips 30 = .ok (.istore_n 2, 1) := by decide +kernel
theorem dX5_slips_31 : decode cX5_slips 31 = .ok (.iconst 0, 1) := by decide +kernel
theorem dX5_slips_32 : decode cX5_slips 32 = .ok (.istore_n 3, 1) := by decide +kernel
theorem dX5_slips_33 : decode cX5_slips 33 = .ok (.iload_n 3, 1) := by decide +kernel
theorem dX5_slips_34 : decode cX5_slips 34 = .ok (.iload_n 2, 1) := by decide +kernel
theorem dX5_slips_35 : decode cX5_slips 35 = .ok (.if_icmp .ge 82, 3) := by decide +kernel
theorem dX5_slips_38 : decode cX5_slips 38 = .ok (.aload_n 0, 1) := by decide +kernel
theorem dX5_slips_39 : decode cX5_slips 39 = .ok (.getfield 36, 3) := by decide +kernel
theorem dX5_slips_42 : decode cX5_slips 42 = .ok (.iload_n 3, 1) := by decide +kernel
theorem dX5_slips_43 : decode cX5_slips 43 = .ok (.invokevirtual 182, 3) := by decide +kernel
theorem dX5_slips_46 : decode cX5_slips 46 = .ok (.istore 4, 2) := by decide +kernel
theorem dX5_slips_48 : decode cX5_slips 48 = .ok (.aload_n 0, 1) := by decide +kernel
theorem dX5_slips_49 : decode cX5_slips 49 = .ok (.getfield 36, 3) := by decide +kernel
theorem dX5_slips_52 : decode cX5_slips 52 = .ok (.iload 4, 2) := by decide +kernel
theorem dX5_slips_54 : decode cX5_slips 54 = .ok (.invokevirtual 185, 3) := by decide +kernel
theorem dX5_slips_57 : decode cX5_slips 57 = .ok (.ifCond .ne 54, 3) := by decide +kernel
theorem dX5_slips_60 : decode cX5_slips 60 = .ok (.aload_n 0, 1) := by decide +kernel
theorem dX5_slips_61 : decode cX5_slips 61 = .ok (.iload_n 1, 1) := by decide +kernel
theorem dX5_slips_62 : decode cX5_slips 62 = .ok (.aload_n 0, 1) := by decide +kernel
theorem dX5_slips_63 : decode cX5_slips 63 = .ok (.getfield 36, 3) := by decide +kernel
theorem dX5_slips_66 : decode cX5_slips 66 = .ok (.iload_n 3, 1) := by decide +kernel
theorem dX5_slips_67 : decode cX5_slips 67 = .ok (.invokevirtual 188, 3) := by decide +kernel
theorem dX5_slips_70 : decode cX5_slips 70 = .ok (.iconst (-1), 1) := by decide +kernel
theorem dX5_slips_71 : decode cX5_slips 71 = .ok (.ixor, 1) := by decide +kernel
theorem dX5_slips_72 : decode cX5_slips 72 = .ok (.iand, 1) := by decide +kernel
theorem dX5_slips_73 : decode cX5_slips 73 = .ok (.invokevirtual 170, 3) := by decide +kernel
theorem dX5_slips_76 : decode cX5_slips 76 = .ok (.istore 5, 2) := by decide +kernel
theorem dX5_slips_78 : decode cX5_slips 78 = .ok (.iload 5, 2) := by decide +kernel
theorem dX5_slips_80 : decode cX5_slips 80 = .ok (.bipush (-2), 2) := by decide +kernel
theorem dX5_slips_82 : decode cX5_slips 82 = .ok (.if_icmp .ne 6, 3) := by decide +kernel
theorem dX5_slips_85 : decode cX5_slips 85 = .ok (.bipush (-2), 2) := by decide +kernel
theorem dX5_slips_87 : decode cX5_slips 87 = .ok (.ireturn, 1) := by decide +kernel
theorem dX5_slips_88 : decode cX5_slips 88 = .ok (.iload 5, 2) := by decide +kernel
theorem dX5_slips_90 : decode cX5_slips 90 = .ok (.iconst 1, 1) := by decide +kernel
theorem dX5_slips_91 : decode cX5_slips 91 = .ok (.if_icmp .ne 20, 3) := by decide +kernel
theorem dX5_slips_94 : decode cX5_slips 94 = .ok (.aload_n 0, 1) := by decide +kernel
theorem dX5_slips_95 : decode cX5_slips 95 = .ok (.getfield 36, 3) := by decide +kernel
theorem dX5_slips_98 : decode cX5_slips 98 = .ok (.iload 4, 2) := by decide +kernel
theorem dX5_slips_100 : decode cX5_slips 100 = .ok (.aload_n 0, 1) := by decide +kernel
theorem dX5_slips_101 : decode cX5_slips 101 = .ok (.getfield 36, 3) := by decide +kernel
theorem dX5_slips_104 : decode cX5_slips 104 = .ok (.iload_n 3, 1) := by decide +kernel
theorem dX5_slips_105 : decode cX5_slips 105 = .ok (.invokevirtual 191, 3) := by decide +kernel
theorem dX5_slips_108 : decode cX5_slips 108 = .ok (.invokevirtual 194, 3) := by decide +kernel
theorem dX5_slips_111 : decode cX5_slips 111 = .ok (.iinc 3 1, 3) := by decide +kernel
theorem dX5_slips_114 : decode cX5_slips 114 = .ok (.goto (-81), 3) := by decide +kernel
theorem dX5_slips_117 : decode cX5_slips 117 = .ok (.aload_n 0, 1) := by decide +kernel
theorem dX5_slips_118 : decode cX5_slips 118 = .ok (.getfield 36, 3) := by decide +kernel
theorem dX5_slips_121 : decode cX5_slips 121 = .ok (.invokevirtual 197, 3) := by decide +kernel
theorem dX5_slips_124 : decode cX5_slips 124 = .ok (.aload_n 0, 1) := by decide +kernel
theorem dX5_slips_125 : decode cX5_slips 125 = .ok (.getfield 36, 3) := by decide +kernel
theorem dX5_slips_128 : decode cX5_slips 128 = .ok (.getfield 200, 3) := by decide +kernel
theorem dX5_slips_131 : decode cX5_slips 131 = .ok (.ireturn, 1) := by decide +kernel
theorem dX5_slipped_0 : decode cX5_slipped 0 = .ok (.iload_n 1, 1) := by decide +kernel
theorem dX5_slipped_1 : decode cX5_slipped 1 = .ok (.iconst (-1), 1) := by decide +kernel
theorem dX5_slipped_2 : decode cX5_slipped 2 = .ok (.if_icmp .ne 11, 3) := by decide +kernel
theorem dX5_slipped_5 : decode cX5_slipped 5 = .ok (.aload_n 0, 1) := by decide +kernel
theorem dX5_slipped_6 : decode cX5_slipped 6 = .ok (.getfield 36, 3) := by decide +kernel
theorem dX5_slipped_9 : decode cX5_slipped 9 = .ok (.getfield 203, 3) := by decide +kernel
theorem dX5_slipped_12 : decode cX5_slipped 12 = .ok (.ireturn, 1) := by decide +kernel
theorem dX5_slipped_13 : decode cX5_slipped 13 = .ok (.iload_n 1, 1) := by decide +kernel
theorem dX5_slipped_14 : decode cX5_slipped 14 = .ok (.ifCond .lt 26, 3) := by decide +kernel
theorem dX5_slipped_17 : decode cX5_slipped 17 = .ok (.iload_n 1, 1) := by decide +kernel
theorem dX5_slipped_18 : decode cX5_slipped 18 = .ok (.aload_n 0, 1) := by decide +kernel
theorem dX5_slipped_19 : decode cX5_slipped 19 = .ok (.getfield 36, 3) := by decide +kernel
theorem dX5_slipped_22 : decode cX5_slipped 22 = .ok (.getfield 203, 3) := by decide +kernel
theorem dX5_slipped_25 : decode cX5_slipped 25 = .ok (.if_icmp .ge 15, 3) := by decide +kernel
theorem dX5_slipped_28 : decode cX5_slipped 28 = .ok (.aload_n 0, 1) := by decide +kernel
theorem dX5_slipped_29 : decode cX5_slipped 29 = .ok (.getfield 36, 3) := by decide +kernel
theorem dX5_slipped_32 : decode cX5_slipped 32 = .ok (.getfield 206, 3) := by decide +kernel
theorem dX5_slipped_35 : decode cX5_slipped 35 = .ok (.iload_n 1, 1) := by decide +kernel
theorem dX5_slipped_36 : decode cX5_slipped 36 = .ok (.iaload, 1) := by decide +kernel
theorem dX5_slipped_37 : decode cX5_slipped 37 = .ok (.goto 4, 3) := by decide +kernel
theorem dX5_slipped_40 : decode cX5_slipped 40 = .ok (.iconst (-1), 1) := by decide +kernel
theorem dX5_slipped_41 : decode cX5_slipped 41 = .ok (.ireturn, 1) := by decide +kernel
set_option maxRecDepth 20000 in
theorem ggX5_width_X5_isEvent : GoodIn wsX5_width wsX5_isEvent := goodIn_r _ [5, 6, 126, 127, 128, 129, 130, 131, 132, 133, 134, 135, 136] (by decide +kernel) (by decide +kernel)
set_option maxRecDepth 20000 in
theorem gX5_width_X5_isEvent : GoodIn wsX5_width (wsV RX5 77 RX5 yX5_isEvent wsX5_isEvent) := goodIn_app (goodIn_of _ (by decide +kernel)) ggX5_width_X5_isEvent
set_option maxRecDepth 20000 in
theorem ggX5_width_X5_isDay : GoodIn wsX5_width wsX5_isDay := goodIn_r _ [9, 10] (by decide +kernel) (by decide +kernel)
set_option maxRecDepth 20000 in
theorem gX5_width_X5_isDay : GoodIn wsX5_width (va_wsS RX5 148 yX5_isDay wsX5_isDay) := goodIn_app (goodIn_of _ (by decide +kernel)) ggX5_width_X5_isDay
set_option maxRecDepth 20000 in
theorem ggX5_width_X5_askWidth : GoodIn wsX5_width wsX5_askWidth := goodIn_r _ [14, 15, 6, 16, 17, 18, 19, 20, 21, 22, 23, 24, 25, 26, 27, 28, 29, 30, 31, 32, 33, 4, 34, 35, 36, 37, 38, 39, 40, 41, 42, 43, 44, 45, 46, 47, 48, 49, 50, 51, 52, 53, 54, 55, 56, 57, 58, 59, 60, 61, 62, 63, 64, 65, 66, 67, 68, 69, 70, 71, 72, 73, 74, 75, 76, 77, 78, 79, 80, 81, 82, 83, 84, 85, 86, 87, 88, 89, 90, 91, 92, 93, 94, 95, 96, 97, 98, 99, 100, 101, 102, 103, 104, 105, 106, 107, 108, 109, 110, 111, 112, 113, 114, 115, 116, 117, 118, 119, 120, 121, 122, 123, 124, 125, 126, 127, 128, 129, 130, 131, 132, 133, 134, 135, 136, 137, 138, 139, 140, 141, 142, 143, 144, 145, 146, 147, 148, 149, 150, 151, 152, 153, 154, 155, 156, 157, 158, 159, 160, 161, 162] (by decide +kernel) (by decide +kernel)
set_option maxRecDepth 20000 in
theorem gX5_width_X5_askWidth : GoodIn wsX5_width (wsV RX5 209 RX5 yX5_askWidth wsX5_askWidth) := goodIn_app (goodIn_of _ (by decide +kernel)) ggX5_width_X5_askWidth
theorem dX5_width_0 : decode cX5_width 0 = .ok (.iload_n 1, 1) := by decide +kernel
theorem dX5_width_1 : decode cX5_width 1 = .ok (.iconst (-1), 1) := by decide +kernel
theorem dX5_width_2 : decode cX5_width 2 = .ok (.if_icmp .ne 12, 3) := by decide +kernel
theorem dX5_width_5 : decode cX5_width 5 = .ok (.iload_n 2, 1) := by decide +kernel
theorem dX5_width_6 : decode cX5_width 6 = .ok (.iconst (-1), 1) := by decide +kernel
theorem dX5_width_7 : decode cX5_width 7 = .ok (.if_icmp .ne 7, 3) := by decide +kernel
theorem dX5_width_10 : decode cX5_width 10 = .ok (.iconst 1, 1) := by decide +kernel
theorem dX5_width_11 : decode cX5_width 11 = .ok (.goto 4, 3) := by decide +kernel
theorem dX5_width_14 : decode cX5_width 14 = .ok (.iconst 0, 1) := by decide +kernel
theorem dX5_width_15 : decode cX5_width 15 = .ok (.istore_n 3, 1) := by decide +kernel
theorem dX5_width_16 : decode cX5_width 16 = .ok (.iload_n 3, 1) := by decide +kernel
theorem dX5_width_17 : decode cX5_width 17 = .ok (.ifCond .ne 20, 3) := by decide +kernel
theorem dX5_width_20 : decode cX5_width 20 = .ok (.aload_n 0, 1) := by decide +kernel
theorem dX5_width_21 : decode cX5_width 21 = .ok (.iload_n 1, 1) := by decide +kernel
theorem dX5_width_22 : decode cX5_width 22 = .ok (.invokevirtual 77, 3) := by decide +kernel
theorem dX5_width_25 : decode cX5_width 25 = .ok (.ifCond .eq 10, 3) := by decide +kernel
theorem dX5_width_28 : decode cX5_width 28 = .ok (.iload_n 2, 1) := by decide +kernel
theorem dX5_width_29 : decode cX5_width 29 = .ok (.invokestatic 148, 3) := by decide +kernel
theorem dX5_width_32 : decode cX5_width 32 = .ok (.ifCond .ne 5, 3) := by decide +kernel
theorem dX5_width_35 : decode cX5_width 35 = .ok (.iconst (-1), 1) := by decide +kernel
theorem dX5_width_36 : decode cX5_width 36 = .ok (.ireturn, 1) := by decide +kernel
theorem dX5_width_37 : decode cX5_width 37 = .ok (.aload_n 0, 1) := by decide +kernel
theorem dX5_width_38 : decode cX5_width 38 = .ok (.iload_n 1, 1) := by decide +kernel
theorem dX5_width_39 : decode cX5_width 39 = .ok (.iload_n 2, 1) := by decide +kernel
theorem dX5_width_40 : decode cX5_width 40 = .ok (.invokevirtual 209, 3) := by decide +kernel
theorem dX5_width_43 : decode cX5_width 43 = .ok (.ireturn, 1) := by decide +kernel
set_option maxRecDepth 20000 in
theorem ggX5_settles_X5_askWidth : GoodIn wsX5_settles wsX5_askWidth := goodIn_r _ [15, 1, 10, 16, 8, 2, 17, 18, 19, 20, 21, 22, 23, 24, 25, 26, 27, 28, 29, 30, 31, 14, 32, 33, 34, 35, 36, 37, 38, 39, 40, 41, 42, 43, 44, 45, 46, 47, 48, 49, 50, 51, 52, 53, 54, 55, 56, 57, 58, 59, 60, 61, 62, 63, 64, 65, 66, 67, 68, 69, 70, 71, 72, 73, 74, 75, 76, 77, 78, 79, 80, 81, 82, 83, 84, 85, 86, 87, 88, 89, 90, 91, 92, 93, 94, 95, 96, 97, 98, 99, 100, 101, 102, 103, 104, 105, 106, 107, 108, 109, 110, 111, 112, 113, 114, 115, 116, 117, 118, 119, 120, 121, 122, 123, 129, 130, 131, 132, 133, 134, 135, 136, 137, 138, 139, 140, 141, 142, 143, 144, 145, 146, 147, 148, 149, 150, 151, 152, 153, 154, 155, 156, 157, 158, 159, 160, 161, 162, 163, 164, 165] (by decide +kernel) (by decide +kernel)
set_option maxRecDepth 20000 in
theorem gX5_settles_X5_askWidth : GoodIn wsX5_settles (wsV RX5 209 RX5 yX5_askWidth wsX5_askWidth) := goodIn_app (goodIn_of _ (by decide +kernel)) ggX5_settles_X5_askWidth
set_option maxRecDepth 20000 in
theorem ggX5_settles_X5_greaterWidth : GoodIn wsX5_settles wsX5_greaterWidth := goodIn_r _ [127, 3, 9, 128, 61, 24, 62, 11, 12, 13, 14, 15, 1, 10, 16, 8, 2, 17, 18, 19, 20, 21, 22, 23, 25, 26, 27, 28, 29, 30, 31, 32, 33, 34, 35, 36, 37, 38, 39, 40, 41, 42, 43, 44, 45, 46, 47, 48, 49, 50, 51, 52, 53, 54, 55, 56, 57, 58, 59, 60, 63, 64, 65, 66, 67, 68, 69, 70, 71, 72, 73, 74, 75, 76, 77, 78, 79, 80, 81, 82, 83, 84, 85, 86, 87, 88, 89, 90, 91, 92, 93, 94, 95, 96, 97, 98, 99, 100, 101, 102, 103, 104, 105, 106, 107, 108, 109, 110, 111, 112, 113, 114, 115, 116, 117, 118, 119, 120, 121, 122, 123, 129, 130, 131, 132, 133, 134, 135, 136, 137, 138, 139, 140, 141, 142, 143, 144, 145, 146, 147, 148, 149, 150, 151, 152, 153, 154, 155, 156, 157, 158, 159, 160, 161, 162, 163, 164, 165] (by decide +kernel) (by decide +kernel)
set_option maxRecDepth 20000 in
theorem gX5_settles_X5_greaterWidth : GoodIn wsX5_settles (wsV RX5 219 RX5 yX5_greaterWidth wsX5_greaterWidth) := goodIn_app (goodIn_of _ (by decide +kernel)) ggX5_settles_X5_greaterWidth
theorem dX5_settles_0 : decode cX5_settles 0 = .ok (.aload_n 0, 1) := by decide +kernel
theorem dX5_settles_1 : decode cX5_settles 1 = .ok (.iconst (-1), 1) := by decide +kernel
theorem dX5_settles_2 : decode cX5_settles 2 = .ok (.iconst (-1), 1) := by decide +kernel
theorem dX5_settles_3 : decode cX5_settles 3 = .ok (.invokevirtual 209, 3) := by decide +kernel
theorem dX5_settles_6 : decode cX5_settles 6 = .ok (.istore_n 1, 1) := by decide +kernel
theorem dX5_settles_7 : decode cX5_settles 7 = .ok (.iload_n 1, 1) := by decide +kernel
theorem dX5_settles_8 : decode cX5_settles 8 = .ok (.ifCond .ge 5, 3) := by decide +kernel
theorem dX5_settles_11 : decode cX5_settles 11 = .ok (.iload_n 1, 1) := by decide +kernel
theorem dX5_settles_12 : decode cX5_settles 12 = .ok (.ireturn, 1) := by decide +kernel
theorem dX5_settles_13 : decode cX5_settles 13 = .ok (.aload_n 0, 1) := by decide +kernel
theorem dX5_settles_14 : decode cX5_settles 14 = .ok (.getfield 29, 3) := by decide +kernel
theorem dX5_settles_17 : decode cX5_settles 17 = .ok (.getfield 142, 3) := by decide +kernel
theorem dX5_settles_20 : decode cX5_settles 20 = .ok (.iconst 0, 1) := by decide +kernel
theorem dX5_settles_21 : decode cX5_settles 21 = .ok (.aload_n 0, 1) := by decide +kernel
theorem dX5_settles_22 : decode cX5_settles 22 = .ok (.getfield 40, 3) := by decide +kernel
theorem dX5_settles_25 : decode cX5_settles 25 = .ok (.iconst 0, 1) := by decide +kernel
theorem dX5_settles_26 : decode cX5_settles 26 = .ok (.bipush 6, 2) := by decide +kernel
theorem dX5_settles_28 : decode cX5_settles 28 = .ok (.invokestatic 213, 3) := by decide +kernel
theorem dX5_settles_31 : decode cX5_settles 31 = .ok (.aload_n 0, 1) := by decide +kernel
theorem dX5_settles_32 : decode cX5_settles 32 = .ok (.getfield 29, 3) := by decide +kernel
theorem dX5_settles_35 : decode cX5_settles 35 = .ok (.getfield 145, 3) := by decide +kernel
theorem dX5_settles_38 : decode cX5_settles 38 = .ok (.iconst 0, 1) := by decide +kernel
theorem dX5_settles_39 : decode cX5_settles 39 = .ok (.aload_n 0, 1) := by decide +kernel
theorem dX5_settles_40 : decode cX5_settles 40 = .ok (.getfield 43, 3) := by decide +kernel
theorem dX5_settles_43 : decode cX5_settles 43 = .ok (.iconst 0, 1) := by decide +kernel
theorem dX5_settles_44 : decode cX5_settles 44 = .ok (.bipush 6, 2) := by decide +kernel
theorem dX5_settles_46 : decode cX5_settles 46 = .ok (.invokestatic 213, 3) := by decide +kernel
theorem dX5_settles_49 : decode cX5_settles 49 = .ok (.iconst (-1), 1) := by decide +kernel
theorem dX5_settles_50 : decode cX5_settles 50 = .ok (.istore_n 2, 1) := by decide +kernel
theorem dX5_settles_51 : decode cX5_settles 51 = .ok (.iconst 0, 1) := by decide +kernel
theorem dX5_settles_52 : decode cX5_settles 52 = .ok (.istore_n 3, 1) := by decide +kernel
theorem dX5_settles_53 : decode cX5_settles 53 = .ok (.iconst 0, 1) := by decide +kernel
theorem dX5_settles_54 : decode cX5_settles 54 = .ok (.istore 4, 2) := by decide +kernel
theorem dX5_settles_56 : decode cX5_settles 56 = .ok (.iload 4, 2) := by decide +kernel
theorem dX5_settles_58 : decode cX5_settles 58 = .ok (.aload_n 0, 1) := by decide +kernel
theorem dX5_settles_59 : decode cX5_settles 59 = .ok (.getfield 71, 3) := by decide +kernel
theorem dX5_settles_62 : decode cX5_settles 62 = .ok (.if_icmp .ge 61, 3) := by decide +kernel
theorem dX5_settles_65 : decode cX5_settles 65 = .ok (.aload_n 0, 1) := by decide +kernel
theorem dX5_settles_66 : decode cX5_settles 66 = .ok (.getfield 40, 3) := by decide +kernel
theorem dX5_settles_69 : decode cX5_settles 69 = .ok (.iload 4, 2) := by decide +kernel
theorem dX5_settles_71 : decode cX5_settles 71 = .ok (.iaload, 1) := by decide +kernel
theorem dX5_settles_72 : decode cX5_settles 72 = .ok (.aload_n 0, 1) := by decide +kernel
theorem dX5_settles_73 : decode cX5_settles 73 = .ok (.getfield 43, 3) := by decide +kernel
theorem dX5_settles_76 : decode cX5_settles 76 = .ok (.iload 4, 2) := by decide +kernel
theorem dX5_settles_78 : decode cX5_settles 78 = .ok (.iaload, 1) := by decide +kernel
theorem dX5_settles_79 : decode cX5_settles 79 = .ok (.if_icmp .eq 38, 3) := by decide +kernel
theorem dX5_settles_82 : decode cX5_settles 82 = .ok (.aload_n 0, 1) := by decide +kernel
theorem dX5_settles_83 : decode cX5_settles 83 = .ok (.iload 4, 2) := by decide +kernel
theorem dX5_settles_85 : decode cX5_settles 85 = .ok (.invokevirtual 219, 3) := by decide +kernel
theorem dX5_settles_88 : decode cX5_settles 88 = .ok (.istore 5, 2) := by decide +kernel
theorem dX5_settles_90 : decode cX5_settles 90 = .ok (.iload 5, 2) := by decide +kernel
theorem dX5_settles_92 : decode cX5_settles 92 = .ok (.bipush (-2), 2) := by decide +kernel
theorem dX5_settles_94 : decode cX5_settles 94 = .ok (.if_icmp .ne 6, 3) := by decide +kernel
theorem dX5_settles_97 : decode cX5_settles 97 = .ok (.bipush (-2), 2) := by decide +kernel
theorem dX5_settles_99 : decode cX5_settles 99 = .ok (.ireturn, 1) := by decide +kernel
theorem dX5_settles_100 : decode cX5_settles 100 = .ok (.iload_n 2, 1) := by decide +kernel
theorem dX5_settles_101 : decode cX5_settles 101 = .ok (.iconst (-1), 1) := by decide +kernel
theorem dX5_settles_102 : decode cX5_settles 102 = .ok (.if_icmp .eq 9, 3) := by decide +kernel
theorem dX5_settles_105 : decode cX5_settles 105 = .ok (.iload 5, 2) := by decide +kernel
theorem dX5_settles_107 : decode cX5_settles 107 = .ok (.iload_n 3, 1) := by decide +kernel
theorem dX5_settles_108 : decode cX5_settles 108 = .ok (.if_icmp .ge 9, 3) := by decide +kernel
theorem dX5_settles_111 : decode cX5_settles 111 = .ok (.iload 4, 2) := by decide +kernel
theorem dX5_settles_113 : decode cX5_settles 113 = .ok (.istore_n 2, 1) := by decide +kernel
theorem dX5_settles_114 : decode cX5_settles 114 = .ok (.iload 5, 2) := by decide +kernel
theorem dX5_settles_116 : decode cX5_settles 116 = .ok (.istore_n 3, 1) := by decide +kernel
theorem dX5_settles_117 : decode cX5_settles 117 = .ok (.iinc 4 1, 3) := by decide +kernel
theorem dX5_settles_120 : decode cX5_settles 120 = .ok (.goto (-64), 3) := by decide +kernel
theorem dX5_settles_123 : decode cX5_settles 123 = .ok (.iload_n 2, 1) := by decide +kernel
theorem dX5_settles_124 : decode cX5_settles 124 = .ok (.ireturn, 1) := by decide +kernel
end
section
theorem dX5_count_0 : decode cX5_count 0 = .ok (.iload_n 1, 1) := by decide +kernel
theorem dX5_count_1 : decode cX5_count 1 = .ok (.tableswitch 54 0 3 #[31, 36, 41, 46], 31) := by decide +kernel
theorem dX5_count_32 : decode cX5_count 32 = .ok (.aload_n 0, 1) := by decide +kernel
theorem dX5_count_33 : decode cX5_count 33 = .ok (.getfield 59, 3) := by decide +kernel
theorem dX5_count_36 : decode cX5_count 36 = .ok (.ireturn, 1) := by decide +kernel
theorem dX5_count_37 : decode cX5_count 37 = .ok (.aload_n 0, 1) := by decide +kernel
theorem dX5_count_38 : decode cX5_count 38 = .ok (.getfield 71, 3) := by decide +kernel
theorem dX5_count_41 : decode cX5_count 41 = .ok (.ireturn, 1) := by decide +kernel
theorem dX5_count_42 : decode cX5_count 42 = .ok (.aload_n 0, 1) := by decide +kernel
theorem dX5_count_43 : decode cX5_count 43 = .ok (.getfield 74, 3) := by decide +kernel
theorem dX5_count_46 : decode cX5_count 46 = .ok (.ireturn, 1) := by decide +kernel
theorem dX5_count_47 : decode cX5_count 47 = .ok (.aload_n 0, 1) := by decide +kernel
theorem dX5_count_48 : decode cX5_count 48 = .ok (.getfield 29, 3) := by decide +kernel
theorem dX5_count_51 : decode cX5_count 51 = .ok (.getfield 222, 3) := by decide +kernel
theorem dX5_count_54 : decode cX5_count 54 = .ok (.ireturn, 1) := by decide +kernel
theorem dX5_count_55 : decode cX5_count 55 = .ok (.iconst (-1), 1) := by decide +kernel
theorem dX5_count_56 : decode cX5_count 56 = .ok (.ireturn, 1) := by decide +kernel
theorem dX5_isDay_0 : decode cX5_isDay 0 = .ok (.iload_n 0, 1) := by decide +kernel
theorem dX5_isDay_1 : decode cX5_isDay 1 = .ok (.ifCond .lt 13, 3) := by decide +kernel
theorem dX5_isDay_4 : decode cX5_isDay 4 = .ok (.iload_n 0, 1) := by decide +kernel
theorem dX5_isDay_5 : decode cX5_isDay 5 = .ok (.ldc 225, 2) := by decide +kernel
theorem dX5_isDay_7 : decode cX5_isDay 7 = .ok (.if_icmp .gt 7, 3) := by decide +kernel
theorem dX5_isDay_10 : decode cX5_isDay 10 = .ok (.iconst 1, 1) := by decide +kernel
theorem dX5_isDay_11 : decode cX5_isDay 11 = .ok (.goto 4, 3) := by decide +kernel
theorem dX5_isDay_14 : decode cX5_isDay 14 = .ok (.iconst 0, 1) := by decide +kernel
theorem dX5_isDay_15 : decode cX5_isDay 15 = .ok (.ireturn, 1) := by decide +kernel
set_option maxRecDepth 20000 in
theorem ggX5_isRowOfDays_X5_isDay : GoodIn wsX5_isRowOfDays wsX5_isDay := goodIn_r _ [4, 5] (by decide +kernel) (by decide +kernel)
set_option maxRecDepth 20000 in
theorem gX5_isRowOfDays_X5_isDay : GoodIn wsX5_isRowOfDays (va_wsS RX5 148 yX5_isDay wsX5_isDay) := goodIn_app (goodIn_of _ (by decide +kernel)) ggX5_isRowOfDays_X5_isDay
theorem dX5_isRowOfDays_0 : decode cX5_isRowOfDays 0 = .ok (.iload_n 0, 1) := by decide +kernel
theorem dX5_isRowOfDays_1 : decode cX5_isRowOfDays 1 = .ok (.invokestatic 148, 3) := by decide +kernel
theorem dX5_isRowOfDays_4 : decode cX5_isRowOfDays 4 = .ok (.ifCond .eq 19, 3) := by decide +kernel
theorem dX5_isRowOfDays_7 : decode cX5_isRowOfDays 7 = .ok (.iload_n 1, 1) := by decide +kernel
theorem dX5_isRowOfDays_8 : decode cX5_isRowOfDays 8 = .ok (.invokestatic 148, 3) := by decide +kernel
theorem dX5_isRowOfDays_11 : decode cX5_isRowOfDays 11 = .ok (.ifCond .eq 12, 3) := by decide +kernel
theorem dX5_isRowOfDays_14 : decode cX5_isRowOfDays 14 = .ok (.iload_n 0, 1) := by decide +kernel
theorem dX5_isRowOfDays_15 : decode cX5_isRowOfDays 15 = .ok (.iload_n 1, 1) := by decide +kernel
theorem dX5_isRowOfDays_16 : decode cX5_isRowOfDays 16 = .ok (.if_icmp .gt 7, 3) := by decide +kernel
theorem dX5_isRowOfDays_19 : decode cX5_isRowOfDays 19 = .ok (.iconst 1, 1) := by decide +kernel
theorem dX5_isRowOfDays_20 : decode cX5_isRowOfDays 20 = .ok (.goto 4, 3) := by decide +kernel
theorem dX5_isRowOfDays_23 : decode cX5_isRowOfDays 23 = .ok (.iconst 0, 1) := by decide +kernel
theorem dX5_isRowOfDays_24 : decode cX5_isRowOfDays 24 = .ok (.ireturn, 1) := by decide +kernel
theorem dX5_isEvent_0 : decode cX5_isEvent 0 = .ok (.iload_n 1, 1) := by decide +kernel
theorem dX5_isEvent_1 : decode cX5_isEvent 1 = .ok (.ifCond .lt 15, 3) := by decide +kernel
theorem dX5_isEvent_4 : decode cX5_isEvent 4 = .ok (.iload_n 1, 1) := by decide +kernel
theorem dX5_isEvent_5 : decode cX5_isEvent 5 = .ok (.aload_n 0, 1) := by decide +kernel
theorem dX5_isEvent_6 : decode cX5_isEvent 6 = .ok (.getfield 71, 3) := by decide +kernel
theorem dX5_isEvent_9 : decode cX5_isEvent 9 = .ok (.if_icmp .ge 7, 3) := by decide +kernel
theorem dX5_isEvent_12 : decode cX5_isEvent 12 = .ok (.iconst 1, 1) := by decide +kernel
theorem dX5_isEvent_13 : decode cX5_isEvent 13 = .ok (.goto 4, 3) := by decide +kernel
theorem dX5_isEvent_16 : decode cX5_isEvent 16 = .ok (.iconst 0, 1) := by decide +kernel
theorem dX5_isEvent_17 : decode cX5_isEvent 17 = .ok (.ireturn, 1) := by decide +kernel
theorem dX5_isSaying_0 : decode cX5_isSaying 0 = .ok (.iload_n 1, 1) := by decide +kernel
theorem dX5_isSaying_1 : decode cX5_isSaying 1 = .ok (.ifCond .lt 15, 3) := by decide +kernel
theorem dX5_isSaying_4 : decode cX5_isSaying 4 = .ok (.iload_n 1, 1) := by decide +kernel
theorem dX5_isSaying_5 : decode cX5_isSaying 5 = .ok (.aload_n 0, 1) := by decide +kernel
theorem dX5_isSaying_6 : decode cX5_isSaying 6 = .ok (.getfield 74, 3) := by decide +kernel
theorem dX5_isSaying_9 : decode cX5_isSaying 9 = .ok (.if_icmp .ge 7, 3) := by decide +kernel
theorem dX5_isSaying_12 : decode cX5_isSaying 12 = .ok (.iconst 1, 1) := by decide +kernel
theorem dX5_isSaying_13 : decode cX5_isSaying 13 = .ok (.goto 4, 3) := by decide +kernel
theorem dX5_isSaying_16 : decode cX5_isSaying 16 = .ok (.iconst 0, 1) := by decide +kernel
theorem dX5_isSaying_17 : decode cX5_isSaying 17 = .ok (.ireturn, 1) := by decide +kernel
set_option maxRecDepth 20000 in
theorem ggX5_isBehind_X5_isEvent : GoodIn wsX5_isBehind wsX5_isEvent := goodIn_r _ [7, 8, 9, 10, 11, 12, 13, 14, 15, 16, 17, 18, 19] (by decide +kernel) (by decide +kernel)
set_option maxRecDepth 20000 in
theorem gX5_isBehind_X5_isEvent : GoodIn wsX5_isBehind (wsV RX5 77 RX5 yX5_isEvent wsX5_isEvent) := goodIn_app (goodIn_of _ (by decide +kernel)) ggX5_isBehind_X5_isEvent
theorem dX5_isBehind_0 : decode cX5_isBehind 0 = .ok (.aload_n 0, 1) := by decide +kernel
theorem dX5_isBehind_1 : decode cX5_isBehind 1 = .ok (.iload 4, 2) := by decide +kernel
theorem dX5_isBehind_3 : decode cX5_isBehind 3 = .ok (.invokevirtual 77, 3) := by decide +kernel
theorem dX5_isBehind_6 : decode cX5_isBehind 6 = .ok (.ifCond .eq 30, 3) := by decide +kernel
theorem dX5_isBehind_9 : decode cX5_isBehind 9 = .ok (.iload 4, 2) := by decide +kernel
theorem dX5_isBehind_11 : decode cX5_isBehind 11 = .ok (.iload_n 1, 1) := by decide +kernel
theorem dX5_isBehind_12 : decode cX5_isBehind 12 = .ok (.if_icmp .eq 24, 3) := by decide +kernel
theorem dX5_isBehind_15 : decode cX5_isBehind 15 = .ok (.iload_n 2, 1) := by decide +kernel
theorem dX5_isBehind_16 : decode cX5_isBehind 16 = .ok (.iload_n 3, 1) := by decide +kernel
theorem dX5_isBehind_17 : decode cX5_isBehind 17 = .ok (.if_icmp .gt 19, 3) := by decide +kernel
theorem dX5_isBehind_20 : decode cX5_isBehind 20 = .ok (.iload_n 2, 1) := by decide +kernel
theorem dX5_isBehind_21 : decode cX5_isBehind 21 = .ok (.ldc 226, 2) := by decide +kernel
theorem dX5_isBehind_23 : decode cX5_isBehind 23 = .ok (.if_icmp .lt 13, 3) := by decide +kernel
theorem dX5_isBehind_26 : decode cX5_isBehind 26 = .ok (.iload_n 3, 1) := by decide +kernel
theorem dX5_isBehind_27 : decode cX5_isBehind 27 = .ok (.ldc 227, 2) := by decide +kernel
theorem dX5_isBehind_29 : decode cX5_isBehind 29 = .ok (.if_icmp .gt 7, 3) := by decide +kernel
theorem dX5_isBehind_32 : decode cX5_isBehind 32 = .ok (.iconst 1, 1) := by decide +kernel
theorem dX5_isBehind_33 : decode cX5_isBehind 33 = .ok (.goto 4, 3) := by decide +kernel
theorem dX5_isBehind_36 : decode cX5_isBehind 36 = .ok (.iconst 0, 1) := by decide +kernel
theorem dX5_isBehind_37 : decode cX5_isBehind 37 = .ok (.ireturn, 1) := by decide +kernel
set_option maxRecDepth 20000 in
theorem ggX5_fillSpans_X5_isRowOfDays : GoodIn wsX5_fillSpans wsX5_isRowOfDays := goodIn_r _ [4, 5, 6, 3, 7, 8] (by decide +kernel) (by decide +kernel)
set_option maxRecDepth 20000 in
theorem gX5_fillSpans_X5_isRowOfDays : GoodIn wsX5_fillSpans (va_wsS RX5 67 yX5_isRowOfDays wsX5_isRowOfDays) := goodIn_app (goodIn_of _ (by decide +kernel)) ggX5_fillSpans_X5_isRowOfDays
set_option maxRecDepth 20000 in
theorem ggX5_fillSpans_X4_add : GoodIn wsX5_fillSpans wsX4_add := goodIn_r _ [13, 14, 15, 16, 17, 18, 19, 20, 21, 22, 23, 24, 80, 81, 82] (by decide +kernel) (by decide +kernel)
set_option maxRecDepth 20000 in
theorem gX5_fillSpans_X4_add : GoodIn wsX5_fillSpans (wsV RX5 228 RX4 yX4_add wsX4_add) := goodIn_app (goodIn_of _ (by decide +kernel)) ggX5_fillSpans_X4_add
set_option maxRecDepth 20000 in
theorem ggX5_fillSpans_X5_addDate : GoodIn wsX5_fillSpans wsX5_addDate := goodIn_r _ [27, 28, 29, 30, 31, 32, 33, 34, 35, 36, 37, 38, 39, 40, 41, 42, 43, 44, 45, 46, 47, 48, 49, 50, 51, 52, 53, 54, 55, 56, 6, 3, 7, 8, 9, 10, 11, 12, 13, 14, 15, 16, 17, 18, 19, 20, 21, 22, 23, 24, 80, 81, 82] (by decide +kernel) (by decide +kernel)
set_option maxRecDepth 20000 in
theorem gX5_fillSpans_X5_addDate : GoodIn wsX5_fillSpans (va_wsS RX5 231 yX5_addDate wsX5_addDate) := goodIn_app (goodIn_of _ (by decide +kernel)) ggX5_fillSpans_X5_addDate
set_option maxRecDepth 20000 in
theorem ggX5_fillSpans_X0_isMonth : GoodIn wsX5_fillSpans wsX0_isMonth := goodIn_r _ [34, 35, 36, 30, 37, 38, 39, 40, 41, 42, 43] (by decide +kernel) (by decide +kernel)
set_option maxRecDepth 20000 in
theorem gX5_fillSpans_X0_isMonth : GoodIn wsX5_fillSpans (va_wsS RX5 235 yX0_isMonth wsX0_isMonth) := goodIn_app (goodIn_of _ (by decide +kernel)) ggX5_fillSpans_X0_isMonth
set_option maxRecDepth 20000 in
theorem ggX5_fillSpans_X0_monthStart : GoodIn wsX5_fillSpans wsX0_monthStart := goodIn_r _ [53, 54, 55, 30, 56, 44, 45, 46, 47, 48, 49, 50] (by decide +kernel) (by decide +kernel)
set_option maxRecDepth 20000 in
theorem gX5_fillSpans_X0_monthStart : GoodIn wsX5_fillSpans (va_wsS RX5 239 yX0_monthStart wsX0_monthStart) := goodIn_app (goodIn_of _ (by decide +kernel)) ggX5_fillSpans_X0_monthStart
set_option maxRecDepth 20000 in
theorem ggX5_fillSpans_X0_monthDays : GoodIn wsX5_fillSpans wsX0_monthDays := goodIn_r _ [46, 47, 48, 49, 30, 50] (by decide +kernel) (by decide +kernel)
set_option maxRecDepth 20000 in
theorem gX5_fillSpans_X0_monthDays : GoodIn wsX5_fillSpans (va_wsS RX5 242 yX0_monthDays wsX0_monthDays) := goodIn_app (goodIn_of _ (by decide +kernel)) ggX5_fillSpans_X0_monthDays
set_option maxRecDepth 20000 in
theorem ggX5_fillSpans_X0_isYear : GoodIn wsX5_fillSpans wsX0_isYear := goodIn_r _ [37, 38, 39, 30, 40] (by decide +kernel) (by decide +kernel)
set_option maxRecDepth 20000 in
theorem gX5_fillSpans_X0_isYear : GoodIn wsX5_fillSpans (va_wsS RX5 245 yX0_isYear wsX0_isYear) := goodIn_app (goodIn_of _ (by decide +kernel)) ggX5_fillSpans_X0_isYear
set_option maxRecDepth 20000 in
theorem ggX5_fillSpans_X0_yearStart : GoodIn wsX5_fillSpans wsX0_yearStart := goodIn_r _ [56] (by decide +kernel) (by decide +kernel)
set_option maxRecDepth 20000 in
theorem gX5_fillSpans_X0_yearStart : GoodIn wsX5_fillSpans (va_wsS RX5 248 yX0_yearStart wsX0_yearStart) := goodIn_app (goodIn_of _ (by decide +kernel)) ggX5_fillSpans_X0_yearStart
set_option maxRecDepth 20000 in
theorem ggX5_fillSpans_X5_addReign : GoodIn wsX5_fillSpans wsX5_addReign := goodIn_r _ [65, 66, 67, 68, 69, 70, 71, 30, 72, 73, 74, 75, 38, 39, 40, 6, 3, 7, 8, 76, 77, 78, 54, 55, 56, 41, 42, 43, 44, 45, 46, 47, 48, 49, 50, 79, 29, 31, 32, 33, 34, 35, 36, 37, 51, 52, 53, 9, 10, 11, 12, 13, 14, 15, 16, 17, 18, 19, 20, 21, 22, 23, 24, 83, 84, 85, 86, 87, 88, 89, 90, 91, 92, 93, 80, 81, 82] (by decide +kernel) (by decide +kernel)
set_option maxRecDepth 20000 in
theorem gX5_fillSpans_X5_addReign : GoodIn wsX5_fillSpans (wsV RX5 251 RX5 yX5_addReign wsX5_addReign) := goodIn_app (goodIn_of _ (by decide +kernel)) ggX5_fillSpans_X5_addReign
theorem dX5_fillSpans_0 : decode cX5_fillSpans 0 = .ok (.iload_n 2, 1) := by decide +kernel
theorem dX5_fillSpans_1 : decode cX5_fillSpans 1 = .ok (.tableswitch 187 0 5 #[39, 58, 70, 113, 145, 156], 39) := by decide +kernel
theorem dX5_fillSpans_40 : decode cX5_fillSpans 40 = .ok (.iload_n 3, 1) := by decide +kernel
theorem dX5_fillSpans_41 : decode cX5_fillSpans 41 = .ok (.iload 4, 2) := by decide +kernel
theorem dX5_fillSpans_43 : decode cX5_fillSpans 43 = .ok (.invokestatic 67, 3) := by decide +kernel
theorem dX5_fillSpans_46 : decode cX5_fillSpans 46 = .ok (.ifCond .eq 142, 3) := by decide +kernel
theorem dX5_fillSpans_49 : decode cX5_fillSpans 49 = .ok (.aload_n 1, 1) := by decide +kernel
theorem dX5_fillSpans_50 : decode cX5_fillSpans 50 = .ok (.iload_n 3, 1) := by decide +kernel
theorem dX5_fillSpans_51 : decode cX5_fillSpans 51 = .ok (.iload 4, 2) := by decide +kernel
theorem dX5_fillSpans_53 : decode cX5_fillSpans 53 = .ok (.invokevirtual 228, 3) := by decide +kernel
theorem dX5_fillSpans_56 : decode cX5_fillSpans 56 = .ok (.goto 132, 3) := by decide +kernel
theorem dX5_fillSpans_59 : decode cX5_fillSpans 59 = .ok (.aload_n 1, 1) := by decide +kernel
theorem dX5_fillSpans_60 : decode cX5_fillSpans 60 = .ok (.iload_n 3, 1) := by decide +kernel
theorem dX5_fillSpans_61 : decode cX5_fillSpans 61 = .ok (.iload 4, 2) := by decide +kernel
theorem dX5_fillSpans_63 : decode cX5_fillSpans 63 = .ok (.iload 5, 2) := by decide +kernel
theorem dX5_fillSpans_65 : decode cX5_fillSpans 65 = .ok (.invokestatic 231, 3) := by decide +kernel
theorem dX5_fillSpans_68 : decode cX5_fillSpans 68 = .ok (.goto 120, 3) := by decide +kernel
theorem dX5_fillSpans_71 : decode cX5_fillSpans 71 = .ok (.iload_n 3, 1) := by decide +kernel
theorem dX5_fillSpans_72 : decode cX5_fillSpans 72 = .ok (.iload 4, 2) := by decide +kernel
theorem dX5_fillSpans_74 : decode cX5_fillSpans 74 = .ok (.iload 5, 2) := by decide +kernel
theorem dX5_fillSpans_76 : decode cX5_fillSpans 76 = .ok (.invokestatic 235, 3) := by decide +kernel
theorem dX5_fillSpans_79 : decode cX5_fillSpans 79 = .ok (.ifCond .eq 109, 3) := by decide +kernel
theorem dX5_fillSpans_82 : decode cX5_fillSpans 82 = .ok (.iload_n 3, 1) := by decide +kernel
theorem dX5_fillSpans_83 : decode cX5_fillSpans 83 = .ok (.iload 4, 2) := by decide +kernel
theorem dX5_fillSpans_85 : decode cX5_fillSpans 85 = .ok (.iload 5, 2) := by decide +kernel
theorem dX5_fillSpans_87 : decode cX5_fillSpans 87 = .ok (.invokestatic 239, 3) := by decide +kernel
theorem dX5_fillSpans_90 : decode cX5_fillSpans 90 = .ok (.istore 6, 2) := by decide +kernel
theorem dX5_fillSpans_92 : decode cX5_fillSpans 92 = .ok (.aload_n 1, 1) := by decide +kernel
theorem dX5_fillSpans_93 : decode cX5_fillSpans 93 = .ok (.iload 6, 2) := by decide +kernel
theorem dX5_fillSpans_95 : decode cX5_fillSpans 95 = .ok (.iload 6, 2) := by decide +kernel
theorem dX5_fillSpans_97 : decode cX5_fillSpans 97 = .ok (.iload_n 3, 1) := by decide +kernel
theorem dX5_fillSpans_98 : decode cX5_fillSpans 98 = .ok (.iload 4, 2) := by decide +kernel
theorem dX5_fillSpans_100 : decode cX5_fillSpans 100 = .ok (.iload 5, 2) := by decide +kernel
theorem dX5_fillSpans_102 : decode cX5_fillSpans 102 = .ok (.invokestatic 242, 3) := by decide +kernel
theorem dX5_fillSpans_105 : decode cX5_fillSpans 105 = .ok (.iadd, 1) := by decide +kernel
theorem dX5_fillSpans_106 : decode cX5_fillSpans 106 = .ok (.iconst 1, 1) := by decide +kernel
theorem dX5_fillSpans_107 : decode cX5_fillSpans 107 = .ok (.isub, 1) := by decide +kernel
theorem dX5_fillSpans_108 : decode cX5_fillSpans 108 = .ok (.invokevirtual 228, 3) := by decide +kernel
theorem dX5_fillSpans_111 : decode cX5_fillSpans 111 = .ok (.goto 77, 3) := by decide +kernel
theorem dX5_fillSpans_114 : decode cX5_fillSpans 114 = .ok (.iload_n 3, 1) := by decide +kernel
theorem dX5_fillSpans_115 : decode cX5_fillSpans 115 = .ok (.iload 4, 2) := by decide +kernel
theorem dX5_fillSpans_117 : decode cX5_fillSpans 117 = .ok (.invokestatic 245, 3) := by decide +kernel
theorem dX5_fillSpans_120 : decode cX5_fillSpans 120 = .ok (.ifCond .eq 68, 3) := by decide +kernel
theorem dX5_fillSpans_123 : decode cX5_fillSpans 123 = .ok (.aload_n 1, 1) := by decide +kernel
theorem dX5_fillSpans_124 : decode cX5_fillSpans 124 = .ok (.iload_n 3, 1) := by decide +kernel
theorem dX5_fillSpans_125 : decode cX5_fillSpans 125 = .ok (.iload 4, 2) := by decide +kernel
theorem dX5_fillSpans_127 : decode cX5_fillSpans 127 = .ok (.invokestatic 248, 3) := by decide +kernel
theorem dX5_fillSpans_130 : decode cX5_fillSpans 130 = .ok (.iload_n 3, 1) := by decide +kernel
theorem dX5_fillSpans_131 : decode cX5_fillSpans 131 = .ok (.iload 4, 2) := by decide +kernel
theorem dX5_fillSpans_133 : decode cX5_fillSpans 133 = .ok (.iconst 1, 1) := by decide +kernel
theorem dX5_fillSpans_134 : decode cX5_fillSpans 134 = .ok (.iadd, 1) := by decide +kernel
theorem dX5_fillSpans_135 : decode cX5_fillSpans 135 = .ok (.invokestatic 248, 3) := by decide +kernel
theorem dX5_fillSpans_138 : decode cX5_fillSpans 138 = .ok (.iconst 1, 1) := by decide +kernel
theorem dX5_fillSpans_139 : decode cX5_fillSpans 139 = .ok (.isub, 1) := by decide +kernel
theorem dX5_fillSpans_140 : decode cX5_fillSpans 140 = .ok (.invokevirtual 228, 3) := by decide +kernel
theorem dX5_fillSpans_143 : decode cX5_fillSpans 143 = .ok (.goto 45, 3) := by decide +kernel
theorem dX5_fillSpans_146 : decode cX5_fillSpans 146 = .ok (.aload_n 0, 1) := by decide +kernel
theorem dX5_fillSpans_147 : decode cX5_fillSpans 147 = .ok (.aload_n 1, 1) := by decide +kernel
theorem dX5_fillSpans_148 : decode cX5_fillSpans 148 = .ok (.iload_n 3, 1) := by decide +kernel
theorem dX5_fillSpans_149 : decode cX5_fillSpans 149 = .ok (.iload 4, 2) := by decide +kernel
theorem dX5_fillSpans_151 : decode cX5_fillSpans 151 = .ok (.invokevirtual 251, 3) := by decide +kernel
theorem dX5_fillSpans_154 : decode cX5_fillSpans 154 = .ok (.goto 34, 3) := by decide +kernel
theorem dX5_fillSpans_157 : decode cX5_fillSpans 157 = .ok (.iconst 0, 1) := by decide +kernel
theorem dX5_fillSpans_158 : decode cX5_fillSpans 158 = .ok (.istore 6, 2) := by decide +kernel
theorem dX5_fillSpans_160 : decode cX5_fillSpans 160 = .ok (.iload 6, 2) := by decide +kernel
theorem dX5_fillSpans_162 : decode cX5_fillSpans 162 = .ok (.bipush 10, 2) := by decide +kernel
theorem dX5_fillSpans_164 : decode cX5_fillSpans 164 = .ok (.if_icmp .ge 21, 3) := by decide +kernel
theorem dX5_fillSpans_167 : decode cX5_fillSpans 167 = .ok (.aload_n 1, 1) := by decide +kernel
theorem dX5_fillSpans_168 : decode cX5_fillSpans 168 = .ok (.iload_n 3, 1) := by decide +kernel
theorem dX5_fillSpans_169 : decode cX5_fillSpans 169 = .ok (.iload 4, 2) := by decide +kernel
theorem dX5_fillSpans_171 : decode cX5_fillSpans 171 = .ok (.iload 6, 2) := by decide +kernel
theorem dX5_fillSpans_173 : decode cX5_fillSpans 173 = .ok (.iadd, 1) := by decide +kernel
theorem dX5_fillSpans_174 : decode cX5_fillSpans 174 = .ok (.iload 5, 2) := by decide +kernel
theorem dX5_fillSpans_176 : decode cX5_fillSpans 176 = .ok (.invokestatic 231, 3) := by decide +kernel
theorem dX5_fillSpans_179 : decode cX5_fillSpans 179 = .ok (.iinc 6 1, 3) := by decide +kernel
theorem dX5_fillSpans_182 : decode cX5_fillSpans 182 = .ok (.goto (-22), 3) := by decide +kernel
theorem dX5_fillSpans_185 : decode cX5_fillSpans 185 = .ok (.goto 3, 3) := by decide +kernel
theorem dX5_fillSpans_188 : decode cX5_fillSpans 188 = .ok (.return_, 1) := by decide +kernel
set_option maxRecDepth 20000 in
theorem ggX5_addDate_X0_dayOf : GoodIn wsX5_addDate wsX0_dayOf := goodIn_r _ [4, 5, 6, 3, 7, 8, 9, 10, 11, 12, 13, 14, 15, 16, 17, 18, 19, 20, 21, 22, 23, 24, 25, 26, 27, 28, 29, 30, 31, 32, 33] (by decide +kernel) (by decide +kernel)
set_option maxRecDepth 20000 in
theorem gX5_addDate_X0_dayOf : GoodIn wsX5_addDate (va_wsS RX5 46 yX0_dayOf wsX0_dayOf) := goodIn_app (goodIn_of _ (by decide +kernel)) ggX5_addDate_X0_dayOf
set_option maxRecDepth 20000 in
theorem ggX5_addDate_X4_add : GoodIn wsX5_addDate wsX4_add := goodIn_r _ [38, 39, 40, 41, 42, 43, 44, 45, 46, 47, 48, 49, 50, 51, 52] (by decide +kernel) (by decide +kernel)
set_option maxRecDepth 20000 in
theorem gX5_addDate_X4_add : GoodIn wsX5_addDate (wsV RX5 228 RX4 yX4_add wsX4_add) := goodIn_app (goodIn_of _ (by decide +kernel)) ggX5_addDate_X4_add
theorem dX5_addDate_0 : decode cX5_addDate 0 = .ok (.iload_n 1, 1) := by decide +kernel
theorem dX5_addDate_1 : decode cX5_addDate 1 = .ok (.iload_n 2, 1) := by decide +kernel
theorem dX5_addDate_2 : decode cX5_addDate 2 = .ok (.iload_n 3, 1) := by decide +kernel
theorem dX5_addDate_3 : decode cX5_addDate 3 = .ok (.bipush 100, 2) := by decide +kernel
theorem dX5_addDate_5 : decode cX5_addDate 5 = .ok (.idiv, 1) := by decide +kernel
theorem dX5_addDate_6 : decode cX5_addDate 6 = .ok (.iload_n 3, 1) := by decide +kernel
theorem dX5_addDate_7 : decode cX5_addDate 7 = .ok (.bipush 100, 2) := by decide +kernel
theorem dX5_addDate_9 : decode cX5_addDate 9 = .ok (.irem, 1) := by decide +kernel
theorem dX5_addDate_10 : decode cX5_addDate 10 = .ok (.invokestatic 46, 3) := by decide +kernel
theorem dX5_addDate_13 : decode cX5_addDate 13 = .ok (.istore 4, 2) := by decide +kernel
theorem dX5_addDate_15 : decode cX5_addDate 15 = .ok (.iload 4, 2) := by decide +kernel
theorem dX5_addDate_17 : decode cX5_addDate 17 = .ok (.iconst (-1), 1) := by decide +kernel
theorem dX5_addDate_18 : decode cX5_addDate 18 = .ok (.if_icmp .eq 11, 3) := by decide +kernel
theorem dX5_addDate_21 : decode cX5_addDate 21 = .ok (.aload_n 0, 1) := by decide +kernel
theorem dX5_addDate_22 : decode cX5_addDate 22 = .ok (.iload 4, 2) := by decide +kernel
theorem dX5_addDate_24 : decode cX5_addDate 24 = .ok (.iload 4, 2) := by decide +kernel
theorem dX5_addDate_26 : decode cX5_addDate 26 = .ok (.invokevirtual 228, 3) := by decide +kernel
theorem dX5_addDate_29 : decode cX5_addDate 29 = .ok (.return_, 1) := by decide +kernel
set_option maxRecDepth 20000 in
theorem ggX5_addReign_X0_yearsBehind : GoodIn wsX5_addReign wsX0_yearsBehind := goodIn_r _ [8, 9, 10, 7, 11, 12, 13, 14, 15, 16, 17, 18, 19, 20, 21, 22, 23, 24, 25, 26, 27, 28, 29, 30, 31, 32, 33, 34, 35, 36, 37, 38, 39, 40, 41, 42, 43, 44, 45, 46] (by decide +kernel) (by decide +kernel)
set_option maxRecDepth 20000 in
theorem gX5_addReign_X0_yearsBehind : GoodIn wsX5_addReign (va_wsS RX5 56 yX0_yearsBehind wsX0_yearsBehind) := goodIn_app (goodIn_of _ (by decide +kernel)) ggX5_addReign_X0_yearsBehind
set_option maxRecDepth 20000 in
theorem ggX5_addReign_X4_add : GoodIn wsX5_addReign wsX4_add := goodIn_r _ [51, 52, 53, 54, 55, 56, 57, 58, 59, 60, 61, 62, 74, 75, 76] (by decide +kernel) (by decide +kernel)
set_option maxRecDepth 20000 in
theorem gX5_addReign_X4_add : GoodIn wsX5_addReign (wsV RX5 228 RX4 yX4_add wsX4_add) := goodIn_app (goodIn_of _ (by decide +kernel)) ggX5_addReign_X4_add
theorem dX5_addReign_0 : decode cX5_addReign 0 = .ok (.iload_n 2, 1) := by decide +kernel
theorem dX5_addReign_1 : decode cX5_addReign 1 = .ok (.ifCond .lt 22, 3) := by decide +kernel
theorem dX5_addReign_4 : decode cX5_addReign 4 = .ok (.iload_n 2, 1) := by decide +kernel
theorem dX5_addReign_5 : decode cX5_addReign 5 = .ok (.aload_n 0, 1) := by decide +kernel
theorem dX5_addReign_6 : decode cX5_addReign 6 = .ok (.getfield 59, 3) := by decide +kernel
theorem dX5_addReign_9 : decode cX5_addReign 9 = .ok (.if_icmp .ge 14, 3) := by decide +kernel
theorem dX5_addReign_12 : decode cX5_addReign 12 = .ok (.iload_n 3, 1) := by decide +kernel
theorem dX5_addReign_13 : decode cX5_addReign 13 = .ok (.iconst 1, 1) := by decide +kernel
theorem dX5_addReign_14 : decode cX5_addReign 14 = .ok (.if_icmp .lt 9, 3) := by decide +kernel
theorem dX5_addReign_17 : decode cX5_addReign 17 = .ok (.iload_n 3, 1) := by decide +kernel
theorem dX5_addReign_18 : decode cX5_addReign 18 = .ok (.bipush 60, 2) := by decide +kernel
theorem dX5_addReign_20 : decode cX5_addReign 20 = .ok (.if_icmp .le 4, 3) := by decide +kernel
theorem dX5_addReign_23 : decode cX5_addReign 23 = .ok (.return_, 1) := by decide +kernel
theorem dX5_addReign_24 : decode cX5_addReign 24 = .ok (.aload_n 0, 1) := by decide +kernel
theorem dX5_addReign_25 : decode cX5_addReign 25 = .ok (.getfield 9, 3) := by decide +kernel
theorem dX5_addReign_28 : decode cX5_addReign 28 = .ok (.iload_n 2, 1) := by decide +kernel
theorem dX5_addReign_29 : decode cX5_addReign 29 = .ok (.iaload, 1) := by decide +kernel
theorem dX5_addReign_30 : decode cX5_addReign 30 = .ok (.aload_n 0, 1) := by decide +kernel
theorem dX5_addReign_31 : decode cX5_addReign 31 = .ok (.getfield 13, 3) := by decide +kernel
theorem dX5_addReign_34 : decode cX5_addReign 34 = .ok (.iload_n 2, 1) := by decide +kernel
theorem dX5_addReign_35 : decode cX5_addReign 35 = .ok (.iaload, 1) := by decide +kernel
theorem dX5_addReign_36 : decode cX5_addReign 36 = .ok (.iload_n 3, 1) := by decide +kernel
theorem dX5_addReign_37 : decode cX5_addReign 37 = .ok (.iconst 1, 1) := by decide +kernel
theorem dX5_addReign_38 : decode cX5_addReign 38 = .ok (.isub, 1) := by decide +kernel
theorem dX5_addReign_39 : decode cX5_addReign 39 = .ok (.invokestatic 56, 3) := by decide +kernel
theorem dX5_addReign_42 : decode cX5_addReign 42 = .ok (.istore 4, 2) := by decide +kernel
theorem dX5_addReign_44 : decode cX5_addReign 44 = .ok (.aload_n 0, 1) := by decide +kernel
theorem dX5_addReign_45 : decode cX5_addReign 45 = .ok (.getfield 9, 3) := by decide +kernel
theorem dX5_addReign_48 : decode cX5_addReign 48 = .ok (.iload_n 2, 1) := by decide +kernel
theorem dX5_addReign_49 : decode cX5_addReign 49 = .ok (.iaload, 1) := by decide +kernel
theorem dX5_addReign_50 : decode cX5_addReign 50 = .ok (.aload_n 0, 1) := by decide +kernel
theorem dX5_addReign_51 : decode cX5_addReign 51 = .ok (.getfield 16, 3) := by decide +kernel
theorem dX5_addReign_54 : decode cX5_addReign 54 = .ok (.iload_n 2, 1) := by decide +kernel
theorem dX5_addReign_55 : decode cX5_addReign 55 = .ok (.iaload, 1) := by decide +kernel
theorem dX5_addReign_56 : decode cX5_addReign 56 = .ok (.iload_n 3, 1) := by decide +kernel
theorem dX5_addReign_57 : decode cX5_addReign 57 = .ok (.invokestatic 56, 3) := by decide +kernel
theorem dX5_addReign_60 : decode cX5_addReign 60 = .ok (.istore 5, 2) := by decide +kernel
theorem dX5_addReign_62 : decode cX5_addReign 62 = .ok (.iload 4, 2) := by decide +kernel
theorem dX5_addReign_64 : decode cX5_addReign 64 = .ok (.iconst (-1), 1) := by decide +kernel
theorem dX5_addReign_65 : decode cX5_addReign 65 = .ok (.if_icmp .eq 19, 3) := by decide +kernel
theorem dX5_addReign_68 : decode cX5_addReign 68 = .ok (.iload 5, 2) := by decide +kernel
theorem dX5_addReign_70 : decode cX5_addReign 70 = .ok (.iconst (-1), 1) := by decide +kernel
theorem dX5_addReign_71 : decode cX5_addReign 71 = .ok (.if_icmp .eq 13, 3) := by decide +kernel
theorem dX5_addReign_74 : decode cX5_addReign 74 = .ok (.aload_n 1, 1) := by decide +kernel
theorem dX5_addReign_75 : decode cX5_addReign 75 = .ok (.iload 4, 2) := by decide +kernel
theorem dX5_addReign_77 : decode cX5_addReign 77 = .ok (.iload 5, 2) := by decide +kernel
theorem dX5_addReign_79 : decode cX5_addReign 79 = .ok (.iconst 1, 1) := by decide +kernel
theorem dX5_addReign_80 : decode cX5_addReign 80 = .ok (.isub, 1) := by decide +kernel
theorem dX5_addReign_81 : decode cX5_addReign 81 = .ok (.invokevirtual 228, 3) := by decide +kernel
theorem dX5_addReign_84 : decode cX5_addReign 84 = .ok (.return_, 1) := by decide +kernel
theorem dX5_rootOf_0 : decode cX5_rootOf 0 = .ok (.iload_n 1, 1) := by decide +kernel
theorem dX5_rootOf_1 : decode cX5_rootOf 1 = .ok (.istore_n 2, 1) := by decide +kernel
theorem dX5_rootOf_2 : decode cX5_rootOf 2 = .ok (.iconst 0, 1) := by decide +kernel
theorem dX5_rootOf_3 : decode cX5_rootOf 3 = .ok (.istore_n 3, 1) := by decide +kernel
theorem dX5_rootOf_4 : decode cX5_rootOf 4 = .ok (.iload_n 3, 1) := by decide +kernel
theorem dX5_rootOf_5 : decode cX5_rootOf 5 = .ok (.bipush 12, 2) := by decide +kernel
theorem dX5_rootOf_7 : decode cX5_rootOf 7 = .ok (.if_icmp .ge 32, 3) := by decide +kernel
theorem dX5_rootOf_10 : decode cX5_rootOf 10 = .ok (.aload_n 0, 1) := by decide +kernel
theorem dX5_rootOf_11 : decode cX5_rootOf 11 = .ok (.getfield 21, 3) := by decide +kernel
theorem dX5_rootOf_14 : decode cX5_rootOf 14 = .ok (.iload_n 2, 1) := by decide +kernel
theorem dX5_rootOf_15 : decode cX5_rootOf 15 = .ok (.aaload, 1) := by decide +kernel
theorem dX5_rootOf_16 : decode cX5_rootOf 16 = .ok (.getfield 110, 3) := by decide +kernel
theorem dX5_rootOf_19 : decode cX5_rootOf 19 = .ok (.iconst (-1), 1) := by decide +kernel
theorem dX5_rootOf_20 : decode cX5_rootOf 20 = .ok (.if_icmp .eq 19, 3) := by decide +kernel
theorem dX5_rootOf_23 : decode cX5_rootOf 23 = .ok (.aload_n 0, 1) := by decide +kernel
theorem dX5_rootOf_24 : decode cX5_rootOf 24 = .ok (.getfield 21, 3) := by decide +kernel
theorem dX5_rootOf_27 : decode cX5_rootOf 27 = .ok (.iload_n 2, 1) := by decide +kernel
theorem dX5_rootOf_28 : decode cX5_rootOf 28 = .ok (.aaload, 1) := by decide +kernel
theorem dX5_rootOf_29 : decode cX5_rootOf 29 = .ok (.getfield 110, 3) := by decide +kernel
theorem dX5_rootOf_32 : decode cX5_rootOf 32 = .ok (.istore_n 2, 1) := by decide +kernel
theorem dX5_rootOf_33 : decode cX5_rootOf 33 = .ok (.iinc 3 1, 3) := by decide +kernel
theorem dX5_rootOf_36 : decode cX5_rootOf 36 = .ok (.goto (-32), 3) := by decide +kernel
theorem dX5_rootOf_39 : decode cX5_rootOf 39 = .ok (.iload_n 2, 1) := by decide +kernel
theorem dX5_rootOf_40 : decode cX5_rootOf 40 = .ok (.ireturn, 1) := by decide +kernel
theorem dX5_takenSet_0 : decode cX5_takenSet 0 = .ok (.iconst 0, 1) := by decide +kernel
theorem dX5_takenSet_1 : decode cX5_takenSet 1 = .ok (.istore_n 1, 1) := by decide +kernel
theorem dX5_takenSet_2 : decode cX5_takenSet 2 = .ok (.iconst 0, 1) := by decide +kernel
theorem dX5_takenSet_3 : decode cX5_takenSet 3 = .ok (.istore_n 2, 1) := by decide +kernel
theorem dX5_takenSet_4 : decode cX5_takenSet 4 = .ok (.iload_n 2, 1) := by decide +kernel
theorem dX5_takenSet_5 : decode cX5_takenSet 5 = .ok (.aload_n 0, 1) := by decide +kernel
theorem dX5_takenSet_6 : decode cX5_takenSet 6 = .ok (.getfield 74, 3) := by decide +kernel
theorem dX5_takenSet_9 : decode cX5_takenSet 9 = .ok (.if_icmp .ge 27, 3) := by decide +kernel
theorem dX5_takenSet_12 : decode cX5_takenSet 12 = .ok (.aload_n 0, 1) := by decide +kernel
theorem dX5_takenSet_13 : decode cX5_takenSet 13 = .ok (.getfield 21, 3) := by decide +kernel
theorem dX5_takenSet_16 : decode cX5_takenSet 16 = .ok (.iload_n 2, 1) := by decide +kernel
theorem dX5_takenSet_17 : decode cX5_takenSet 17 = .ok (.aaload, 1) := by decide +kernel
theorem dX5_takenSet_18 : decode cX5_takenSet 18 = .ok (.getfield 113, 3) := by decide +kernel
theorem dX5_takenSet_21 : decode cX5_takenSet 21 = .ok (.ifCond .eq 9, 3) := by decide +kernel
theorem dX5_takenSet_24 : decode cX5_takenSet 24 = .ok (.iload_n 1, 1) := by decide +kernel
theorem dX5_takenSet_25 : decode cX5_takenSet 25 = .ok (.iconst 1, 1) := by decide +kernel
theorem dX5_takenSet_26 : decode cX5_takenSet 26 = .ok (.iload_n 2, 1) := by decide +kernel
theorem dX5_takenSet_27 : decode cX5_takenSet 27 = .ok (.ishl, 1) := by decide +kernel
theorem dX5_takenSet_28 : decode cX5_takenSet 28 = .ok (.ior, 1) := by decide +kernel
theorem dX5_takenSet_29 : decode cX5_takenSet 29 = .ok (.istore_n 1, 1) := by decide +kernel
theorem dX5_takenSet_30 : decode cX5_takenSet 30 = .ok (.iinc 2 1, 3) := by decide +kernel
theorem dX5_takenSet_33 : decode cX5_takenSet 33 = .ok (.goto (-29), 3) := by decide +kernel
theorem dX5_takenSet_36 : decode cX5_takenSet 36 = .ok (.iload_n 1, 1) := by decide +kernel
theorem dX5_takenSet_37 : decode cX5_takenSet 37 = .ok (.ireturn, 1) := by decide +kernel
set_option maxRecDepth 20000 in
theorem ggX5_askSet_X2_lay : GoodIn wsX5_askSet wsX2_lay := goodIn_r _ [7, 8, 9, 10, 11, 12, 13, 14, 6, 15, 16, 17, 18, 19, 20, 21, 22, 23, 24, 25, 26, 27, 28, 29, 30, 31, 32, 33, 34, 35, 36, 37, 38, 39, 40, 41, 42, 43, 44, 45, 46, 47, 48, 49, 50, 51, 52, 53, 54, 55, 56, 57, 58, 59, 60, 61, 62, 63, 64, 65, 66, 67, 68, 69, 106, 107, 108, 109, 110, 111, 112, 113, 114, 115, 116, 117, 118, 119, 120, 121, 122, 123, 124, 125, 126, 127, 128, 129, 130, 131] (by decide +kernel) (by decide +kernel)
set_option maxRecDepth 20000 in
theorem gX5_askSet_X2_lay : GoodIn wsX5_askSet (wsV RX5 158 RX2 yX2_lay wsX2_lay) := goodIn_app (goodIn_of _ (by decide +kernel)) ggX5_askSet_X2_lay
set_option maxRecDepth 20000 in
theorem ggX5_askSet_X2_run : GoodIn wsX5_askSet wsX2_run := goodIn_r _ [73, 74, 75, 76, 77, 78, 79, 6, 80, 16, 17, 81, 82, 11, 83, 84, 85, 86, 87, 88, 67, 68, 89, 46, 36, 32, 37, 90, 69, 31, 33, 91, 92, 93, 94, 19, 115, 116, 117, 118, 119, 120, 121, 122, 123, 124, 125, 126, 127, 128, 129, 130, 131] (by decide +kernel) (by decide +kernel)
set_option maxRecDepth 20000 in
theorem gX5_askSet_X2_run : GoodIn wsX5_askSet (wsV RX5 166 RX2 yX2_run wsX2_run) := goodIn_app (goodIn_of _ (by decide +kernel)) ggX5_askSet_X2_run
theorem dX5_askSet_0 : decode cX5_askSet 0 = .ok (.aload_n 0, 1) := by decide +kernel
theorem dX5_askSet_1 : decode cX5_askSet 1 = .ok (.getfield 29, 3) := by decide +kernel
theorem dX5_askSet_4 : decode cX5_askSet 4 = .ok (.aload_n 0, 1) := by decide +kernel
theorem dX5_askSet_5 : decode cX5_askSet 5 = .ok (.getfield 21, 3) := by decide +kernel
theorem dX5_askSet_8 : decode cX5_askSet 8 = .ok (.iload_n 1, 1) := by decide +kernel
theorem dX5_askSet_9 : decode cX5_askSet 9 = .ok (.invokevirtual 158, 3) := by decide +kernel
theorem dX5_askSet_12 : decode cX5_askSet 12 = .ok (.aload_n 0, 1) := by decide +kernel
theorem dX5_askSet_13 : decode cX5_askSet 13 = .ok (.getfield 29, 3) := by decide +kernel
theorem dX5_askSet_16 : decode cX5_askSet 16 = .ok (.iconst 1, 1) := by decide +kernel
theorem dX5_askSet_17 : decode cX5_askSet 17 = .ok (.invokevirtual 166, 3) := by decide +kernel
theorem dX5_askSet_20 : decode cX5_askSet 20 = .ok (.ireturn, 1) := by decide +kernel
set_option maxRecDepth 20000 in
theorem ggX5_askAllWays_X5_isEvent : GoodIn wsX5_askAllWays wsX5_isEvent := goodIn_r _ [8, 2, 111, 112, 113, 114, 115, 116, 117, 118, 119, 120, 121] (by decide +kernel) (by decide +kernel)
set_option maxRecDepth 20000 in
theorem gX5_askAllWays_X5_isEvent : GoodIn wsX5_askAllWays (wsV RX5 77 RX5 yX5_isEvent wsX5_isEvent) := goodIn_app (goodIn_of _ (by decide +kernel)) ggX5_askAllWays_X5_isEvent
set_option maxRecDepth 20000 in
theorem ggX5_askAllWays_X2_begin : GoodIn wsX5_askAllWays wsX2_begin := goodIn_r _ [13, 14, 15, 16, 17, 18, 19, 20, 122, 123, 124, 125, 126, 127, 128, 129, 130, 131, 132, 133, 134, 135] (by decide +kernel) (by decide +kernel)
set_option maxRecDepth 20000 in
theorem gX5_askAllWays_X2_begin : GoodIn wsX5_askAllWays (wsV RX5 151 RX2 yX2_begin wsX2_begin) := goodIn_app (goodIn_of _ (by decide +kernel)) ggX5_askAllWays_X2_begin
set_option maxRecDepth 20000 in
theorem ggX5_askAllWays_X5_takenSet : GoodIn wsX5_askAllWays wsX5_takenSet := goodIn_r _ [24, 25, 3, 26, 111, 112, 113, 114, 115, 116, 117, 118, 119, 120, 121, 136, 137, 138, 139, 140, 141, 142, 143, 144] (by decide +kernel) (by decide +kernel)
set_option maxRecDepth 20000 in
theorem gX5_askAllWays_X5_takenSet : GoodIn wsX5_askAllWays (wsV RX5 154 RX5 yX5_takenSet wsX5_takenSet) := goodIn_app (goodIn_of _ (by decide +kernel)) ggX5_askAllWays_X5_takenSet
set_option maxRecDepth 20000 in
theorem ggX5_askAllWays_X2_lay : GoodIn wsX5_askAllWays wsX2_lay := goodIn_r _ [30, 31, 32, 33, 34, 35, 36, 37, 12, 38, 18, 39, 40, 41, 42, 43, 44, 45, 46, 47, 48, 49, 50, 51, 52, 53, 16, 54, 55, 56, 15, 17, 57, 58, 59, 60, 61, 62, 63, 64, 14, 65, 66, 67, 68, 69, 70, 71, 72, 73, 74, 75, 76, 77, 78, 79, 80, 81, 82, 83, 84, 85, 86, 87, 136, 137, 138, 139, 140, 141, 142, 143, 144, 122, 123, 124, 125, 126, 127, 128, 129, 130, 131, 132, 133, 134, 135, 145, 146, 147] (by decide +kernel) (by decide +kernel)
set_option maxRecDepth 20000 in
theorem gX5_askAllWays_X2_lay : GoodIn wsX5_askAllWays (wsV RX5 158 RX2 yX2_lay wsX2_lay) := goodIn_app (goodIn_of _ (by decide +kernel)) ggX5_askAllWays_X2_lay
set_option maxRecDepth 20000 in
theorem ggX5_askAllWays_X2_run : GoodIn wsX5_askAllWays wsX2_run := goodIn_r _ [91, 92, 93, 20, 94, 95, 96, 12, 97, 18, 39, 98, 19, 34, 99, 100, 101, 102, 103, 104, 85, 86, 105, 14, 15, 16, 17, 106, 87, 53, 54, 107, 108, 109, 110, 41, 122, 123, 124, 125, 126, 127, 128, 129, 130, 131, 132, 133, 134, 135, 145, 146, 147] (by decide +kernel) (by decide +kernel)
set_option maxRecDepth 20000 in
theorem gX5_askAllWays_X2_run : GoodIn wsX5_askAllWays (wsV RX5 166 RX2 yX2_run wsX2_run) := goodIn_app (goodIn_of _ (by decide +kernel)) ggX5_askAllWays_X2_run
theorem dX5_askAllWays_0 : decode cX5_askAllWays 0 = .ok (.aload_n 0, 1) := by decide +kernel
theorem dX5_askAllWays_1 : decode cX5_askAllWays 1 = .ok (.iload_n 1, 1) := by decide +kernel
theorem dX5_askAllWays_2 : decode cX5_askAllWays 2 = .ok (.invokevirtual 77, 3) := by decide +kernel
theorem dX5_askAllWays_5 : decode cX5_askAllWays 5 = .ok (.ifCond .ne 5, 3) := by decide +kernel
theorem dX5_askAllWays_8 : decode cX5_askAllWays 8 = .ok (.iconst (-1), 1) := by decide +kernel
theorem dX5_askAllWays_9 : decode cX5_askAllWays 9 = .ok (.ireturn, 1) := by decide +kernel
theorem dX5_askAllWays_10 : decode cX5_askAllWays 10 = .ok (.aload_n 0, 1) := by decide +kernel
theorem dX5_askAllWays_11 : decode cX5_askAllWays 11 = .ok (.getfield 29, 3) := by decide +kernel
theorem dX5_askAllWays_14 : decode cX5_askAllWays 14 = .ok (.aload_n 0, 1) := by decide +kernel
theorem dX5_askAllWays_15 : decode cX5_askAllWays 15 = .ok (.getfield 71, 3) := by decide +kernel
theorem dX5_askAllWays_18 : decode cX5_askAllWays 18 = .ok (.invokevirtual 151, 3) := by decide +kernel
theorem dX5_askAllWays_21 : decode cX5_askAllWays 21 = .ok (.aload_n 0, 1) := by decide +kernel
theorem dX5_askAllWays_22 : decode cX5_askAllWays 22 = .ok (.getfield 29, 3) := by decide +kernel
theorem dX5_askAllWays_25 : decode cX5_askAllWays 25 = .ok (.aload_n 0, 1) := by decide +kernel
theorem dX5_askAllWays_26 : decode cX5_askAllWays 26 = .ok (.getfield 21, 3) := by decide +kernel
theorem dX5_askAllWays_29 : decode cX5_askAllWays 29 = .ok (.aload_n 0, 1) := by decide +kernel
theorem dX5_askAllWays_30 : decode cX5_askAllWays 30 = .ok (.invokevirtual 154, 3) := by decide +kernel
theorem dX5_askAllWays_33 : decode cX5_askAllWays 33 = .ok (.invokevirtual 158, 3) := by decide +kernel
theorem dX5_askAllWays_36 : decode cX5_askAllWays 36 = .ok (.aload_n 0, 1) := by decide +kernel
theorem dX5_askAllWays_37 : decode cX5_askAllWays 37 = .ok (.getfield 29, 3) := by decide +kernel
theorem dX5_askAllWays_40 : decode cX5_askAllWays 40 = .ok (.iconst 0, 1) := by decide +kernel
theorem dX5_askAllWays_41 : decode cX5_askAllWays 41 = .ok (.invokevirtual 166, 3) := by decide +kernel
theorem dX5_askAllWays_44 : decode cX5_askAllWays 44 = .ok (.istore_n 2, 1) := by decide +kernel
theorem dX5_askAllWays_45 : decode cX5_askAllWays 45 = .ok (.iload_n 2, 1) := by decide +kernel
theorem dX5_askAllWays_46 : decode cX5_askAllWays 46 = .ok (.ifCond .ne 7, 3) := by decide +kernel
theorem dX5_askAllWays_49 : decode cX5_askAllWays 49 = .ok (.iconst (-1), 1) := by decide +kernel
theorem dX5_askAllWays_50 : decode cX5_askAllWays 50 = .ok (.goto 4, 3) := by decide +kernel
theorem dX5_askAllWays_53 : decode cX5_askAllWays 53 = .ok (.iload_n 2, 1) := by decide +kernel
theorem dX5_askAllWays_54 : decode cX5_askAllWays 54 = .ok (.ireturn, 1) := by decide +kernel
set_option maxRecDepth 20000 in
theorem ggX5_askWidth_X2_begin : GoodIn wsX5_askWidth wsX2_begin := goodIn_r _ [10, 11, 12, 13, 14, 15, 16, 17, 125, 126, 127, 128, 129, 130, 131, 132, 133, 134, 135, 136, 137, 138] (by decide +kernel) (by decide +kernel)
set_option maxRecDepth 20000 in
theorem gX5_askWidth_X2_begin : GoodIn wsX5_askWidth (wsV RX5 151 RX2 yX2_begin wsX2_begin) := goodIn_app (goodIn_of _ (by decide +kernel)) ggX5_askWidth_X2_begin
set_option maxRecDepth 20000 in
theorem ggX5_askWidth_X5_takenSet : GoodIn wsX5_askWidth wsX5_takenSet := goodIn_r _ [22, 23, 3, 24, 114, 115, 116, 117, 118, 119, 120, 121, 122, 123, 124, 139, 140, 141, 142, 143, 144, 145, 146, 147] (by decide +kernel) (by decide +kernel)
set_option maxRecDepth 20000 in
theorem gX5_askWidth_X5_takenSet : GoodIn wsX5_askWidth (wsV RX5 154 RX5 yX5_takenSet wsX5_takenSet) := goodIn_app (goodIn_of _ (by decide +kernel)) ggX5_askWidth_X5_takenSet
set_option maxRecDepth 20000 in
theorem ggX5_askWidth_X2_lay : GoodIn wsX5_askWidth wsX2_lay := goodIn_r _ [28, 29, 30, 31, 32, 33, 34, 35, 9, 36, 15, 37, 38, 39, 40, 41, 42, 43, 44, 45, 46, 47, 48, 49, 50, 51, 13, 52, 53, 54, 12, 14, 55, 56, 57, 58, 59, 60, 61, 62, 11, 63, 64, 65, 66, 67, 68, 69, 70, 71, 72, 73, 74, 75, 76, 77, 78, 79, 80, 81, 82, 83, 84, 85, 139, 140, 141, 142, 143, 144, 145, 146, 147, 125, 126, 127, 128, 129, 130, 131, 132, 133, 134, 135, 136, 137, 138, 148, 149, 150] (by decide +kernel) (by decide +kernel)
set_option maxRecDepth 20000 in
theorem gX5_askWidth_X2_lay : GoodIn wsX5_askWidth (wsV RX5 158 RX2 yX2_lay wsX2_lay) := goodIn_app (goodIn_of _ (by decide +kernel)) ggX5_askWidth_X2_lay
set_option maxRecDepth 20000 in
theorem ggX5_askWidth_X2_find : GoodIn wsX5_askWidth wsX2_find := goodIn_r _ [89, 15, 90, 40, 41, 42, 43, 44, 45, 46, 47, 48, 49, 50, 51, 13, 52, 53, 54, 12, 14, 55, 56, 64, 65, 66, 9, 67, 37, 68, 69, 70, 71, 72, 73, 74, 125, 126, 127, 128, 129, 130, 131, 132, 133, 134, 135, 136, 137, 138, 148, 149, 150] (by decide +kernel) (by decide +kernel)
set_option maxRecDepth 20000 in
theorem gX5_askWidth_X2_find : GoodIn wsX5_askWidth (wsV RX5 162 RX2 yX2_find wsX2_find) := goodIn_app (goodIn_of _ (by decide +kernel)) ggX5_askWidth_X2_find
set_option maxRecDepth 20000 in
theorem ggX5_askWidth_X2_run : GoodIn wsX5_askWidth wsX2_run := goodIn_r _ [94, 95, 96, 17, 97, 98, 99, 9, 100, 15, 37, 101, 16, 32, 102, 103, 104, 105, 106, 107, 83, 84, 108, 11, 12, 13, 14, 109, 85, 51, 52, 110, 111, 112, 113, 39, 125, 126, 127, 128, 129, 130, 131, 132, 133, 134, 135, 136, 137, 138, 148, 149, 150] (by decide +kernel) (by decide +kernel)
set_option maxRecDepth 20000 in
theorem gX5_askWidth_X2_run : GoodIn wsX5_askWidth (wsV RX5 166 RX2 yX2_run wsX2_run) := goodIn_app (goodIn_of _ (by decide +kernel)) ggX5_askWidth_X2_run
theorem dX5_askWidth_0 : decode cX5_askWidth 0 = .ok (.aload_n 0, 1) := by decide +kernel
theorem dX5_askWidth_1 : decode cX5_askWidth 1 = .ok (.getfield 29, 3) := by decide +kernel
theorem dX5_askWidth_4 : decode cX5_askWidth 4 = .ok (.aload_n 0, 1) := by decide +kernel
theorem dX5_askWidth_5 : decode cX5_askWidth 5 = .ok (.getfield 71, 3) := by decide +kernel
theorem dX5_askWidth_8 : decode cX5_askWidth 8 = .ok (.invokevirtual 151, 3) := by decide +kernel
theorem dX5_askWidth_11 : decode cX5_askWidth 11 = .ok (.aload_n 0, 1) := by decide +kernel
theorem dX5_askWidth_12 : decode cX5_askWidth 12 = .ok (.getfield 29, 3) := by decide +kernel
theorem dX5_askWidth_15 : decode cX5_askWidth 15 = .ok (.aload_n 0, 1) := by decide +kernel
theorem dX5_askWidth_16 : decode cX5_askWidth 16 = .ok (.getfield 21, 3) := by decide +kernel
theorem dX5_askWidth_19 : decode cX5_askWidth 19 = .ok (.aload_n 0, 1) := by decide +kernel
theorem dX5_askWidth_20 : decode cX5_askWidth 20 = .ok (.invokevirtual 154, 3) := by decide +kernel
theorem dX5_askWidth_23 : decode cX5_askWidth 23 = .ok (.invokevirtual 158, 3) := by decide +kernel
theorem dX5_askWidth_26 : decode cX5_askWidth 26 = .ok (.iload_n 1, 1) := by decide +kernel
theorem dX5_askWidth_27 : decode cX5_askWidth 27 = .ok (.iconst (-1), 1) := by decide +kernel
theorem dX5_askWidth_28 : decode cX5_askWidth 28 = .ok (.if_icmp .eq 12, 3) := by decide +kernel
theorem dX5_askWidth_31 : decode cX5_askWidth 31 = .ok (.aload_n 0, 1) := by decide +kernel
theorem dX5_askWidth_32 : decode cX5_askWidth 32 = .ok (.getfield 29, 3) := by decide +kernel
theorem dX5_askWidth_35 : decode cX5_askWidth 35 = .ok (.iload_n 1, 1) := by decide +kernel
theorem dX5_askWidth_36 : decode cX5_askWidth 36 = .ok (.iload_n 2, 1) := by decide +kernel
theorem dX5_askWidth_37 : decode cX5_askWidth 37 = .ok (.invokevirtual 162, 3) := by decide +kernel
theorem dX5_askWidth_40 : decode cX5_askWidth 40 = .ok (.aload_n 0, 1) := by decide +kernel
theorem dX5_askWidth_41 : decode cX5_askWidth 41 = .ok (.getfield 29, 3) := by decide +kernel
theorem dX5_askWidth_44 : decode cX5_askWidth 44 = .ok (.iconst 0, 1) := by decide +kernel
theorem dX5_askWidth_45 : decode cX5_askWidth 45 = .ok (.invokevirtual 166, 3) := by decide +kernel
theorem dX5_askWidth_48 : decode cX5_askWidth 48 = .ok (.istore_n 3, 1) := by decide +kernel
theorem dX5_askWidth_49 : decode cX5_askWidth 49 = .ok (.iload_n 3, 1) := by decide +kernel
theorem dX5_askWidth_50 : decode cX5_askWidth 50 = .ok (.iconst 1, 1) := by decide +kernel
theorem dX5_askWidth_51 : decode cX5_askWidth 51 = .ok (.if_icmp .eq 14, 3) := by decide +kernel
theorem dX5_askWidth_54 : decode cX5_askWidth 54 = .ok (.iload_n 3, 1) := by decide +kernel
theorem dX5_askWidth_55 : decode cX5_askWidth 55 = .ok (.ifCond .ne 7, 3) := by decide +kernel
theorem dX5_askWidth_58 : decode cX5_askWidth 58 = .ok (.iconst (-1), 1) := by decide +kernel
theorem dX5_askWidth_59 : decode cX5_askWidth 59 = .ok (.goto 5, 3) := by decide +kernel
theorem dX5_askWidth_62 : decode cX5_askWidth 62 = .ok (.bipush (-2), 2) := by decide +kernel
theorem dX5_askWidth_64 : decode cX5_askWidth 64 = .ok (.ireturn, 1) := by decide +kernel
theorem dX5_askWidth_65 : decode cX5_askWidth 65 = .ok (.iconst 0, 1) := by decide +kernel
theorem dX5_askWidth_66 : decode cX5_askWidth 66 = .ok (.istore 4, 2) := by decide +kernel
theorem dX5_askWidth_68 : decode cX5_askWidth 68 = .ok (.iconst 0, 1) := by decide +kernel
theorem dX5_askWidth_69 : decode cX5_askWidth 69 = .ok (.istore 5, 2) := by decide +kernel
theorem dX5_askWidth_71 : decode cX5_askWidth 71 = .ok (.iload 5, 2) := by decide +kernel
theorem dX5_askWidth_73 : decode cX5_askWidth 73 = .ok (.aload_n 0, 1) := by decide +kernel
theorem dX5_askWidth_74 : decode cX5_askWidth 74 = .ok (.getfield 71, 3) := by decide +kernel
theorem dX5_askWidth_77 : decode cX5_askWidth 77 = .ok (.if_icmp .ge 35, 3) := by decide +kernel
theorem dX5_askWidth_80 : decode cX5_askWidth 80 = .ok (.iload 4, 2) := by decide +kernel
theorem dX5_askWidth_82 : decode cX5_askWidth 82 = .ok (.aload_n 0, 1) := by decide +kernel
theorem dX5_askWidth_83 : decode cX5_askWidth 83 = .ok (.getfield 29, 3) := by decide +kernel
theorem dX5_askWidth_86 : decode cX5_askWidth 86 = .ok (.getfield 145, 3) := by decide +kernel
theorem dX5_askWidth_89 : decode cX5_askWidth 89 = .ok (.iload 5, 2) := by decide +kernel
theorem dX5_askWidth_91 : decode cX5_askWidth 91 = .ok (.iaload, 1) := by decide +kernel
theorem dX5_askWidth_92 : decode cX5_askWidth 92 = .ok (.aload_n 0, 1) := by decide +kernel
theorem dX5_askWidth_93 : decode cX5_askWidth 93 = .ok (.getfield 29, 3) := by decide +kernel
theorem dX5_askWidth_96 : decode cX5_askWidth 96 = .ok (.getfield 142, 3) := by decide +kernel
theorem dX5_askWidth_99 : decode cX5_askWidth 99 = .ok (.iload 5, 2) := by decide +kernel
theorem dX5_askWidth_101 : decode cX5_askWidth 101 = .ok (.iaload, 1) := by decide +kernel
theorem dX5_askWidth_102 : decode cX5_askWidth 102 = .ok (.isub, 1) := by decide +kernel
theorem dX5_askWidth_103 : decode cX5_askWidth 103 = .ok (.iadd, 1) := by decide +kernel
theorem dX5_askWidth_104 : decode cX5_askWidth 104 = .ok (.istore 4, 2) := by decide +kernel
theorem dX5_askWidth_106 : decode cX5_askWidth 106 = .ok (.iinc 5 1, 3) := by decide +kernel
theorem dX5_askWidth_109 : decode cX5_askWidth 109 = .ok (.goto (-38), 3) := by decide +kernel
theorem dX5_askWidth_112 : decode cX5_askWidth 112 = .ok (.iload 4, 2) := by decide +kernel
theorem dX5_askWidth_114 : decode cX5_askWidth 114 = .ok (.ireturn, 1) := by decide +kernel
set_option maxRecDepth 20000 in
theorem ggX5_greaterWidth_X5_askWidth : GoodIn wsX5_greaterWidth wsX5_askWidth := goodIn_r _ [11, 12, 13, 14, 15, 16, 17, 18, 19, 20, 21, 22, 23, 5, 24, 25, 26, 27, 28, 29, 30, 10, 31, 32, 33, 34, 35, 36, 37, 38, 39, 40, 41, 42, 43, 44, 45, 46, 47, 48, 49, 50, 51, 52, 53, 54, 55, 56, 57, 58, 59, 4, 6, 60, 61, 62, 63, 64, 65, 66, 67, 68, 69, 70, 71, 72, 73, 74, 75, 76, 77, 78, 79, 80, 81, 82, 83, 84, 85, 86, 87, 88, 89, 90, 91, 92, 93, 94, 95, 96, 97, 98, 99, 100, 101, 102, 103, 104, 105, 106, 107, 108, 109, 110, 111, 112, 113, 114, 115, 116, 117, 118, 119, 120, 121, 122, 123, 124, 125, 126, 127, 128, 129, 130, 131, 132, 133, 134, 135, 136, 137, 138, 139, 140, 141, 142, 143, 144, 145, 146, 147, 148, 149, 150, 151, 152, 153, 154, 155, 156, 157] (by decide +kernel) (by decide +kernel)
set_option maxRecDepth 20000 in
theorem gX5_greaterWidth_X5_askWidth : GoodIn wsX5_greaterWidth (wsV RX5 209 RX5 yX5_askWidth wsX5_askWidth) := goodIn_app (goodIn_of _ (by decide +kernel)) ggX5_greaterWidth_X5_askWidth
theorem dX5_greaterWidth_0 : decode cX5_greaterWidth 0 = .ok (.aload_n 0, 1) := by decide +kernel
theorem dX5_greaterWidth_1 : decode cX5_greaterWidth 1 = .ok (.iload_n 1, 1) := by decide +kernel
theorem dX5_greaterWidth_2 : decode cX5_greaterWidth 2 = .ok (.aload_n 0, 1) := by decide +kernel
theorem dX5_greaterWidth_3 : decode cX5_greaterWidth 3 = .ok (.getfield 40, 3) := by decide +kernel
theorem dX5_greaterWidth_6 : decode cX5_greaterWidth 6 = .ok (.iload_n 1, 1) := by decide +kernel
theorem dX5_greaterWidth_7 : decode cX5_greaterWidth 7 = .ok (.iaload, 1) := by decide +kernel
theorem dX5_greaterWidth_8 : decode cX5_greaterWidth 8 = .ok (.invokevirtual 209, 3) := by decide +kernel
theorem dX5_greaterWidth_11 : decode cX5_greaterWidth 11 = .ok (.istore_n 2, 1) := by decide +kernel
theorem dX5_greaterWidth_12 : decode cX5_greaterWidth 12 = .ok (.iload_n 2, 1) := by decide +kernel
theorem dX5_greaterWidth_13 : decode cX5_greaterWidth 13 = .ok (.bipush (-2), 2) := by decide +kernel
theorem dX5_greaterWidth_15 : decode cX5_greaterWidth 15 = .ok (.if_icmp .ne 6, 3) := by decide +kernel
theorem dX5_greaterWidth_18 : decode cX5_greaterWidth 18 = .ok (.bipush (-2), 2) := by decide +kernel
theorem dX5_greaterWidth_20 : decode cX5_greaterWidth 20 = .ok (.ireturn, 1) := by decide +kernel
theorem dX5_greaterWidth_21 : decode cX5_greaterWidth 21 = .ok (.aload_n 0, 1) := by decide +kernel
theorem dX5_greaterWidth_22 : decode cX5_greaterWidth 22 = .ok (.iload_n 1, 1) := by decide +kernel
theorem dX5_greaterWidth_23 : decode cX5_greaterWidth 23 = .ok (.aload_n 0, 1) := by decide +kernel
theorem dX5_greaterWidth_24 : decode cX5_greaterWidth 24 = .ok (.getfield 43, 3) := by decide +kernel
theorem dX5_greaterWidth_27 : decode cX5_greaterWidth 27 = .ok (.iload_n 1, 1) := by decide +kernel
theorem dX5_greaterWidth_28 : decode cX5_greaterWidth 28 = .ok (.iaload, 1) := by decide +kernel
theorem dX5_greaterWidth_29 : decode cX5_greaterWidth 29 = .ok (.invokevirtual 209, 3) := by decide +kernel
theorem dX5_greaterWidth_32 : decode cX5_greaterWidth 32 = .ok (.istore_n 3, 1) := by decide +kernel
theorem dX5_greaterWidth_33 : decode cX5_greaterWidth 33 = .ok (.iload_n 3, 1) := by decide +kernel
theorem dX5_greaterWidth_34 : decode cX5_greaterWidth 34 = .ok (.bipush (-2), 2) := by decide +kernel
theorem dX5_greaterWidth_36 : decode cX5_greaterWidth 36 = .ok (.if_icmp .ne 8, 3) := by decide +kernel
theorem dX5_greaterWidth_39 : decode cX5_greaterWidth 39 = .ok (.bipush (-2), 2) := by decide +kernel
theorem dX5_greaterWidth_41 : decode cX5_greaterWidth 41 = .ok (.goto 8, 3) := by decide +kernel
theorem dX5_greaterWidth_44 : decode cX5_greaterWidth 44 = .ok (.iload_n 2, 1) := by decide +kernel
theorem dX5_greaterWidth_45 : decode cX5_greaterWidth 45 = .ok (.iload_n 3, 1) := by decide +kernel
theorem dX5_greaterWidth_46 : decode cX5_greaterWidth 46 = .ok (.invokestatic 255, 3) := by decide +kernel
theorem dX5_greaterWidth_49 : decode cX5_greaterWidth 49 = .ok (.ireturn, 1) := by decide +kernel
set_option maxRecDepth 20000 in
theorem ggX5_quarrelWith_X5_askSet : GoodIn wsX5_quarrelWith wsX5_askSet := goodIn_r _ [6, 7, 8, 9, 10, 11, 12, 13, 14, 15, 16, 17, 18, 19, 20, 21, 22, 23, 24, 25, 26, 27, 28, 29, 30, 31, 32, 33, 34, 35, 36, 37, 38, 39, 40, 41, 42, 43, 44, 45, 46, 47, 48, 49, 50, 51, 52, 53, 54, 55, 56, 57, 58, 59, 60, 61, 62, 63, 64, 65, 66, 67, 68, 69, 70, 71, 72, 73, 74, 75, 76, 77, 78, 79, 80, 81, 82, 83, 84, 85, 86, 87, 88, 89, 90, 91, 92, 93, 94, 95, 96, 97, 98, 99, 100, 104, 105, 106, 107, 108, 109, 110, 111, 112, 113, 114, 115, 116, 117, 118, 119, 120, 121, 122, 123, 124, 125, 126, 127, 128, 129, 130, 131, 132, 133, 134, 135, 136, 137, 138, 139, 140] (by decide +kernel) (by decide +kernel)
set_option maxRecDepth 20000 in
theorem gX5_quarrelWith_X5_askSet : GoodIn wsX5_quarrelWith (wsV RX5 170 RX5 yX5_askSet wsX5_askSet) := goodIn_app (goodIn_of _ (by decide +kernel)) ggX5_quarrelWith_X5_askSet
set_option maxRecDepth 20000 in
theorem ggX5_quarrelWith_X5_quarrelWith : GoodIn wsX5_quarrelWith wsX5_quarrelWith := goodIn_r _ [0, 1, 2, 3, 4, 5, 6, 7, 8, 9, 10, 11, 12, 13, 14, 15, 16, 17, 18, 19, 20, 21, 22, 23, 24, 25, 26, 27, 28, 29, 30, 31, 32, 33, 34, 35, 36, 37, 38, 39, 40, 41, 42, 43, 44, 45, 46, 47, 48, 49, 50, 51, 52, 53, 54, 55, 56, 57, 58, 59, 60, 61, 62, 63, 64, 65, 66, 67, 68, 69, 70, 71, 72, 73, 74, 75, 76, 77, 78, 79, 80, 81, 82, 83, 84, 85, 86, 87, 88, 89, 90, 91, 92, 93, 94, 95, 96, 97, 98, 99, 100, 101, 102, 103, 104, 105, 106, 107, 108, 109, 110, 111, 112, 113, 114, 115, 116, 117, 118, 119, 120, 121, 122, 123, 124, 125, 126, 127, 128, 129, 130, 131, 132, 133, 134, 135, 136, 137, 138, 139, 140] (by decide +kernel) (by decide +kernel)
set_option maxRecDepth 20000 in
theorem gX5_quarrelWith_X5_quarrelWith : GoodIn wsX5_quarrelWith (wsV RX5 173 RX5 yX5_quarrelWith wsX5_quarrelWith) := goodIn_app (goodIn_of _ (by decide +kernel)) ggX5_quarrelWith_X5_quarrelWith
theorem dX5_quarrelWith_0 : decode cX5_quarrelWith 0 = .ok (.iload_n 2, 1) := by decide +kernel
theorem dX5_quarrelWith_1 : decode cX5_quarrelWith 1 = .ok (.ifCond .gt 32, 3) := by decide +kernel
theorem dX5_quarrelWith_4 : decode cX5_quarrelWith 4 = .ok (.aload_n 0, 1) := by decide +kernel
theorem dX5_quarrelWith_5 : decode cX5_quarrelWith 5 = .ok (.iload_n 1, 1) := by decide +kernel
theorem dX5_quarrelWith_6 : decode cX5_quarrelWith 6 = .ok (.invokevirtual 170, 3) := by decide +kernel
theorem dX5_quarrelWith_9 : decode cX5_quarrelWith 9 = .ok (.istore 5, 2) := by decide +kernel
theorem dX5_quarrelWith_11 : decode cX5_quarrelWith 11 = .ok (.iload 5, 2) := by decide +kernel
theorem dX5_quarrelWith_13 : decode cX5_quarrelWith 13 = .ok (.bipush (-2), 2) := by decide +kernel
theorem dX5_quarrelWith_15 : decode cX5_quarrelWith 15 = .ok (.if_icmp .ne 6, 3) := by decide +kernel
theorem dX5_quarrelWith_18 : decode cX5_quarrelWith 18 = .ok (.bipush (-2), 2) := by decide +kernel
theorem dX5_quarrelWith_20 : decode cX5_quarrelWith 20 = .ok (.ireturn, 1) := by decide +kernel
theorem dX5_quarrelWith_21 : decode cX5_quarrelWith 21 = .ok (.iload 5, 2) := by decide +kernel
theorem dX5_quarrelWith_23 : decode cX5_quarrelWith 23 = .ok (.iconst 1, 1) := by decide +kernel
theorem dX5_quarrelWith_24 : decode cX5_quarrelWith 24 = .ok (.if_icmp .ne 7, 3) := by decide +kernel
theorem dX5_quarrelWith_27 : decode cX5_quarrelWith 27 = .ok (.iconst 0, 1) := by decide +kernel
theorem dX5_quarrelWith_28 : decode cX5_quarrelWith 28 = .ok (.goto 4, 3) := by decide +kernel
theorem dX5_quarrelWith_31 : decode cX5_quarrelWith 31 = .ok (.iload_n 1, 1) := by decide +kernel
theorem dX5_quarrelWith_32 : decode cX5_quarrelWith 32 = .ok (.ireturn, 1) := by decide +kernel
theorem dX5_quarrelWith_33 : decode cX5_quarrelWith 33 = .ok (.iload_n 3, 1) := by decide +kernel
theorem dX5_quarrelWith_34 : decode cX5_quarrelWith 34 = .ok (.istore 5, 2) := by decide +kernel
theorem dX5_quarrelWith_36 : decode cX5_quarrelWith 36 = .ok (.iload 5, 2) := by decide +kernel
theorem dX5_quarrelWith_38 : decode cX5_quarrelWith 38 = .ok (.aload_n 0, 1) := by decide +kernel
theorem dX5_quarrelWith_39 : decode cX5_quarrelWith 39 = .ok (.getfield 74, 3) := by decide +kernel
theorem dX5_quarrelWith_42 : decode cX5_quarrelWith 42 = .ok (.if_icmp .ge 48, 3) := by decide +kernel
theorem dX5_quarrelWith_45 : decode cX5_quarrelWith 45 = .ok (.iload 4, 2) := by decide +kernel
theorem dX5_quarrelWith_47 : decode cX5_quarrelWith 47 = .ok (.iload 5, 2) := by decide +kernel
theorem dX5_quarrelWith_49 : decode cX5_quarrelWith 49 = .ok (.ishr, 1) := by decide +kernel
theorem dX5_quarrelWith_50 : decode cX5_quarrelWith 50 = .ok (.iconst 1, 1) := by decide +kernel
theorem dX5_quarrelWith_51 : decode cX5_quarrelWith 51 = .ok (.iand, 1) := by decide +kernel
theorem dX5_quarrelWith_52 : decode cX5_quarrelWith 52 = .ok (.ifCond .eq 32, 3) := by decide +kernel
theorem dX5_quarrelWith_55 : decode cX5_quarrelWith 55 = .ok (.aload_n 0, 1) := by decide +kernel
theorem dX5_quarrelWith_56 : decode cX5_quarrelWith 56 = .ok (.iload_n 1, 1) := by decide +kernel
theorem dX5_quarrelWith_57 : decode cX5_quarrelWith 57 = .ok (.iconst 1, 1) := by decide +kernel
theorem dX5_quarrelWith_58 : decode cX5_quarrelWith 58 = .ok (.iload 5, 2) := by decide +kernel
theorem dX5_quarrelWith_60 : decode cX5_quarrelWith 60 = .ok (.ishl, 1) := by decide +kernel
theorem dX5_quarrelWith_61 : decode cX5_quarrelWith 61 = .ok (.ior, 1) := by decide +kernel
theorem dX5_quarrelWith_62 : decode cX5_quarrelWith 62 = .ok (.iload_n 2, 1) := by decide +kernel
theorem dX5_quarrelWith_63 : decode cX5_quarrelWith 63 = .ok (.iconst 1, 1) := by decide +kernel
theorem dX5_quarrelWith_64 : decode cX5_quarrelWith 64 = .ok (.isub, 1) := by decide +kernel
theorem dX5_quarrelWith_65 : decode cX5_quarrelWith 65 = .ok (.iload 5, 2) := by decide +kernel
theorem dX5_quarrelWith_67 : decode cX5_quarrelWith 67 = .ok (.iconst 1, 1) := by decide +kernel
theorem dX5_quarrelWith_68 : decode cX5_quarrelWith 68 = .ok (.iadd, 1) := by decide +kernel
theorem dX5_quarrelWith_69 : decode cX5_quarrelWith 69 = .ok (.iload 4, 2) := by decide +kernel
theorem dX5_quarrelWith_71 : decode cX5_quarrelWith 71 = .ok (.invokevirtual 173, 3) := by decide +kernel
theorem dX5_quarrelWith_74 : decode cX5_quarrelWith 74 = .ok (.istore 6, 2) := by decide +kernel
theorem dX5_quarrelWith_76 : decode cX5_quarrelWith 76 = .ok (.iload 6, 2) := by decide +kernel
theorem dX5_quarrelWith_78 : decode cX5_quarrelWith 78 = .ok (.ifCond .eq 6, 3) := by decide +kernel
theorem dX5_quarrelWith_81 : decode cX5_quarrelWith 81 = .ok (.iload 6, 2) := by decide +kernel
theorem dX5_quarrelWith_83 : decode cX5_quarrelWith 83 = .ok (.ireturn, 1) := by decide +kernel
theorem dX5_quarrelWith_84 : decode cX5_quarrelWith 84 = .ok (.iinc 5 1, 3) := by decide +kernel
theorem dX5_quarrelWith_87 : decode cX5_quarrelWith 87 = .ok (.goto (-51), 3) := by decide +kernel
theorem dX5_quarrelWith_90 : decode cX5_quarrelWith 90 = .ok (.iconst 0, 1) := by decide +kernel
theorem dX5_quarrelWith_91 : decode cX5_quarrelWith 91 = .ok (.ireturn, 1) := by decide +kernel
set_option maxRecDepth 20000 in
theorem ggX5_gatherGroups_X3_begin : GoodIn wsX5_gatherGroups wsX3_begin := goodIn_r _ [9, 10, 11, 12, 46, 47, 48, 49, 50, 51, 52, 53, 54] (by decide +kernel) (by decide +kernel)
set_option maxRecDepth 20000 in
theorem gX5_gatherGroups_X3_begin : GoodIn wsX5_gatherGroups (wsV RX5 260 RX3 yX3_begin wsX3_begin) := goodIn_app (goodIn_of _ (by decide +kernel)) ggX5_gatherGroups_X3_begin
set_option maxRecDepth 20000 in
theorem ggX5_gatherGroups_X5_rootOf : GoodIn wsX5_gatherGroups wsX5_rootOf := goodIn_r _ [17, 3, 18, 26, 27, 28, 29, 30, 31, 32, 33, 34, 35, 36, 37, 38, 39, 40, 41, 42, 43, 44, 45] (by decide +kernel) (by decide +kernel)
set_option maxRecDepth 20000 in
theorem gX5_gatherGroups_X5_rootOf : GoodIn wsX5_gatherGroups (wsV RX5 126 RX5 yX5_rootOf wsX5_rootOf) := goodIn_app (goodIn_of _ (by decide +kernel)) ggX5_gatherGroups_X5_rootOf
set_option maxRecDepth 20000 in
theorem ggX5_gatherGroups_X3_addGroup : GoodIn wsX5_gatherGroups wsX3_addGroup := goodIn_r _ [22, 10, 23, 24, 25, 46, 47, 48, 49, 50, 51, 52, 53, 54] (by decide +kernel) (by decide +kernel)
set_option maxRecDepth 20000 in
theorem gX5_gatherGroups_X3_addGroup : GoodIn wsX5_gatherGroups (wsV RX5 262 RX3 yX3_addGroup wsX3_addGroup) := goodIn_app (goodIn_of _ (by decide +kernel)) ggX5_gatherGroups_X3_addGroup
theorem dX5_gatherGroups_0 : decode cX5_gatherGroups 0 = .ok (.aload_n 0, 1) := by decide +kernel
theorem dX5_gatherGroups_1 : decode cX5_gatherGroups 1 = .ok (.getfield 36, 3) := by decide +kernel
theorem dX5_gatherGroups_4 : decode cX5_gatherGroups 4 = .ok (.invokevirtual 260, 3) := by decide +kernel
theorem dX5_gatherGroups_7 : decode cX5_gatherGroups 7 = .ok (.iconst 0, 1) := by decide +kernel
theorem dX5_gatherGroups_8 : decode cX5_gatherGroups 8 = .ok (.istore_n 2, 1) := by decide +kernel
theorem dX5_gatherGroups_9 : decode cX5_gatherGroups 9 = .ok (.iload_n 2, 1) := by decide +kernel
theorem dX5_gatherGroups_10 : decode cX5_gatherGroups 10 = .ok (.aload_n 0, 1) := by decide +kernel
theorem dX5_gatherGroups_11 : decode cX5_gatherGroups 11 = .ok (.getfield 74, 3) := by decide +kernel
theorem dX5_gatherGroups_14 : decode cX5_gatherGroups 14 = .ok (.if_icmp .ge 70, 3) := by decide +kernel
theorem dX5_gatherGroups_17 : decode cX5_gatherGroups 17 = .ok (.iconst 0, 1) := by decide +kernel
theorem dX5_gatherGroups_18 : decode cX5_gatherGroups 18 = .ok (.istore_n 3, 1) := by decide +kernel
theorem dX5_gatherGroups_19 : decode cX5_gatherGroups 19 = .ok (.iload_n 2, 1) := by decide +kernel
theorem dX5_gatherGroups_20 : decode cX5_gatherGroups 20 = .ok (.istore 4, 2) := by decide +kernel
theorem dX5_gatherGroups_22 : decode cX5_gatherGroups 22 = .ok (.iload 4, 2) := by decide +kernel
theorem dX5_gatherGroups_24 : decode cX5_gatherGroups 24 = .ok (.aload_n 0, 1) := by decide +kernel
theorem dX5_gatherGroups_25 : decode cX5_gatherGroups 25 = .ok (.getfield 74, 3) := by decide +kernel
theorem dX5_gatherGroups_28 : decode cX5_gatherGroups 28 = .ok (.if_icmp .ge 26, 3) := by decide +kernel
theorem dX5_gatherGroups_31 : decode cX5_gatherGroups 31 = .ok (.aload_n 0, 1) := by decide +kernel
theorem dX5_gatherGroups_32 : decode cX5_gatherGroups 32 = .ok (.iload 4, 2) := by decide +kernel
theorem dX5_gatherGroups_34 : decode cX5_gatherGroups 34 = .ok (.invokevirtual 126, 3) := by decide +kernel
theorem dX5_gatherGroups_37 : decode cX5_gatherGroups 37 = .ok (.iload_n 2, 1) := by decide +kernel
theorem dX5_gatherGroups_38 : decode cX5_gatherGroups 38 = .ok (.if_icmp .ne 10, 3) := by decide +kernel
theorem dX5_gatherGroups_41 : decode cX5_gatherGroups 41 = .ok (.iload_n 3, 1) := by decide +kernel
theorem dX5_gatherGroups_42 : decode cX5_gatherGroups 42 = .ok (.iconst 1, 1) := by decide +kernel
theorem dX5_gatherGroups_43 : decode cX5_gatherGroups 43 = .ok (.iload 4, 2) := by decide +kernel
theorem dX5_gatherGroups_45 : decode cX5_gatherGroups 45 = .ok (.ishl, 1) := by decide +kernel
theorem dX5_gatherGroups_46 : decode cX5_gatherGroups 46 = .ok (.ior, 1) := by decide +kernel
theorem dX5_gatherGroups_47 : decode cX5_gatherGroups 47 = .ok (.istore_n 3, 1) := by decide +kernel
theorem dX5_gatherGroups_48 : decode cX5_gatherGroups 48 = .ok (.iinc 4 1, 3) := by decide +kernel
theorem dX5_gatherGroups_51 : decode cX5_gatherGroups 51 = .ok (.goto (-29), 3) := by decide +kernel
theorem dX5_gatherGroups_54 : decode cX5_gatherGroups 54 = .ok (.iload_n 3, 1) := by decide +kernel
theorem dX5_gatherGroups_55 : decode cX5_gatherGroups 55 = .ok (.iload_n 1, 1) := by decide +kernel
theorem dX5_gatherGroups_56 : decode cX5_gatherGroups 56 = .ok (.iand, 1) := by decide +kernel
theorem dX5_gatherGroups_57 : decode cX5_gatherGroups 57 = .ok (.ifCond .eq 21, 3) := by decide +kernel
theorem dX5_gatherGroups_60 : decode cX5_gatherGroups 60 = .ok (.aload_n 0, 1) := by decide +kernel
theorem dX5_gatherGroups_61 : decode cX5_gatherGroups 61 = .ok (.getfield 36, 3) := by decide +kernel
theorem dX5_gatherGroups_64 : decode cX5_gatherGroups 64 = .ok (.iload_n 2, 1) := by decide +kernel
theorem dX5_gatherGroups_65 : decode cX5_gatherGroups 65 = .ok (.iload_n 3, 1) := by decide +kernel
theorem dX5_gatherGroups_66 : decode cX5_gatherGroups 66 = .ok (.aload_n 0, 1) := by decide +kernel
theorem dX5_gatherGroups_67 : decode cX5_gatherGroups 67 = .ok (.getfield 21, 3) := by decide +kernel
theorem dX5_gatherGroups_70 : decode cX5_gatherGroups 70 = .ok (.iload_n 2, 1) := by decide +kernel
theorem dX5_gatherGroups_71 : decode cX5_gatherGroups 71 = .ok (.aaload, 1) := by decide +kernel
theorem dX5_gatherGroups_72 : decode cX5_gatherGroups 72 = .ok (.getfield 123, 3) := by decide +kernel
theorem dX5_gatherGroups_75 : decode cX5_gatherGroups 75 = .ok (.invokevirtual 262, 3) := by decide +kernel
theorem dX5_gatherGroups_78 : decode cX5_gatherGroups 78 = .ok (.iinc 2 1, 3) := by decide +kernel
theorem dX5_gatherGroups_81 : decode cX5_gatherGroups 81 = .ok (.goto (-72), 3) := by decide +kernel
theorem dX5_gatherGroups_84 : decode cX5_gatherGroups 84 = .ok (.return_, 1) := by decide +kernel
end
section
theorem dX6_init_0 : decode cX6_init 0 = .ok (.aload_n 0, 1) := by decide +kernel
theorem dX6_init_1 : decode cX6_init 1 = .ok (.invokespecial 1, 3) := by decide +kernel
theorem dX6_init_4 : decode cX6_init 4 = .ok (.aload_n 0, 1) := by decide +kernel
theorem dX6_init_5 : decode cX6_init 5 = .ok (.bipush 6, 2) := by decide +kernel
theorem dX6_init_7 : decode cX6_init 7 = .ok (.newarray .int, 2) := by decide +kernel
theorem dX6_init_9 : decode cX6_init 9 = .ok (.putfield 7, 3) := by decide +kernel
theorem dX6_init_12 : decode cX6_init 12 = .ok (.aload_n 0, 1) := by decide +kernel
theorem dX6_init_13 : decode cX6_init 13 = .ok (.bipush 6, 2) := by decide +kernel
theorem dX6_init_15 : decode cX6_init 15 = .ok (.newarray .int, 2) := by decide +kernel
theorem dX6_init_17 : decode cX6_init 17 = .ok (.putfield 13, 3) := by decide +kernel
theorem dX6_init_20 : decode cX6_init 20 = .ok (.aload_n 0, 1) := by decide +kernel
theorem dX6_init_21 : decode cX6_init 21 = .ok (.bipush 6, 2) := by decide +kernel
theorem dX6_init_23 : decode cX6_init 23 = .ok (.newarray .int, 2) := by decide +kernel
theorem dX6_init_25 : decode cX6_init 25 = .ok (.putfield 16, 3) := by decide +kernel
theorem dX6_init_28 : decode cX6_init 28 = .ok (.aload_n 0, 1) := by decide +kernel
theorem dX6_init_29 : decode cX6_init 29 = .ok (.bipush 12, 2) := by decide +kernel
theorem dX6_init_31 : decode cX6_init 31 = .ok (.newarray .int, 2) := by decide +kernel
theorem dX6_init_33 : decode cX6_init 33 = .ok (.putfield 19, 3) := by decide +kernel
theorem dX6_init_36 : decode cX6_init 36 = .ok (.aload_n 0, 1) := by decide +kernel
theorem dX6_init_37 : decode cX6_init 37 = .ok (.bipush 12, 2) := by decide +kernel
theorem dX6_init_39 : decode cX6_init 39 = .ok (.newarray .int, 2) := by decide +kernel
theorem dX6_init_41 : decode cX6_init 41 = .ok (.putfield 22, 3) := by decide +kernel
theorem dX6_init_44 : decode cX6_init 44 = .ok (.aload_n 0, 1) := by decide +kernel
theorem dX6_init_45 : decode cX6_init 45 = .ok (.bipush 12, 2) := by decide +kernel
theorem dX6_init_47 : decode cX6_init 47 = .ok (.newarray .int, 2) := by decide +kernel
theorem dX6_init_49 : decode cX6_init 49 = .ok (.putfield 25, 3) := by decide +kernel
theorem dX6_init_52 : decode cX6_init 52 = .ok (.aload_n 0, 1) := by decide +kernel
theorem dX6_init_53 : decode cX6_init 53 = .ok (.bipush 12, 2) := by decide +kernel
theorem dX6_init_55 : decode cX6_init 55 = .ok (.newarray .int, 2) := by decide +kernel
theorem dX6_init_57 : decode cX6_init 57 = .ok (.putfield 28, 3) := by decide +kernel
theorem dX6_init_60 : decode cX6_init 60 = .ok (.aload_n 0, 1) := by decide +kernel
theorem dX6_init_61 : decode cX6_init 61 = .ok (.bipush 12, 2) := by decide +kernel
theorem dX6_init_63 : decode cX6_init 63 = .ok (.newarray .int, 2) := by decide +kernel
theorem dX6_init_65 : decode cX6_init 65 = .ok (.putfield 31, 3) := by decide +kernel
theorem dX6_init_68 : decode cX6_init 68 = .ok (.aload_n 0, 1) := by decide +kernel
theorem dX6_init_69 : decode cX6_init 69 = .ok (.bipush 12, 2) := by decide +kernel
theorem dX6_init_71 : decode cX6_init 71 = .ok (.newarray .int, 2) := by decide +kernel
theorem dX6_init_73 : decode cX6_init 73 = .ok (.putfield 34, 3) := by decide +kernel
theorem dX6_init_76 : decode cX6_init 76 = .ok (.aload_n 0, 1) := by decide +kernel
theorem dX6_init_77 : decode cX6_init 77 = .ok (.bipush 12, 2) := by decide +kernel
theorem dX6_init_79 : decode cX6_init 79 = .ok (.newarray .int, 2) := by decide +kernel
theorem dX6_init_81 : decode cX6_init 81 = .ok (.putfield 37, 3) := by decide +kernel
theorem dX6_init_84 : decode cX6_init 84 = .ok (.aload_n 0, 1) := by decide +kernel
theorem dX6_init_85 : decode cX6_init 85 = .ok (.bipush 12, 2) := by decide +kernel
theorem dX6_init_87 : decode cX6_init 87 = .ok (.newarray .boolean, 2) := by decide +kernel
theorem dX6_init_89 : decode cX6_init 89 = .ok (.putfield 40, 3) := by decide +kernel
theorem dX6_init_92 : decode cX6_init 92 = .ok (.aload_n 0, 1) := by decide +kernel
theorem dX6_init_93 : decode cX6_init 93 = .ok (.sipush 130, 3) := by decide +kernel
theorem dX6_init_96 : decode cX6_init 96 = .ok (.newarray .int, 2) := by decide +kernel
theorem dX6_init_98 : decode cX6_init 98 = .ok (.putfield 44, 3) := by decide +kernel
theorem dX6_init_101 : decode cX6_init 101 = .ok (.aload_n 0, 1) := by decide +kernel
theorem dX6_init_102 : decode cX6_init 102 = .ok (.sipush 130, 3) := by decide +kernel
theorem dX6_init_105 : decode cX6_init 105 = .ok (.newarray .int, 2) := by decide +kernel
theorem dX6_init_107 : decode cX6_init 107 = .ok (.putfield 47, 3) := by decide +kernel
theorem dX6_init_110 : decode cX6_init 110 = .ok (.aload_n 0, 1) := by decide +kernel
theorem dX6_init_111 : decode cX6_init 111 = .ok (.bipush 13, 2) := by decide +kernel
theorem dX6_init_113 : decode cX6_init 113 = .ok (.newarray .int, 2) := by decide +kernel
theorem dX6_init_115 : decode cX6_init 115 = .ok (.putfield 50, 3) := by decide +kernel
theorem dX6_init_118 : decode cX6_init 118 = .ok (.aload_n 0, 1) := by decide +kernel
theorem dX6_init_119 : decode cX6_init 119 = .ok (.bipush 120, 2) := by decide +kernel
theorem dX6_init_121 : decode cX6_init 121 = .ok (.newarray .int, 2) := by decide +kernel
theorem dX6_init_123 : decode cX6_init 123 = .ok (.putfield 53, 3) := by decide +kernel
theorem dX6_init_126 : decode cX6_init 126 = .ok (.aload_n 0, 1) := by decide +kernel
theorem dX6_init_127 : decode cX6_init 127 = .ok (.bipush 120, 2) := by decide +kernel
theorem dX6_init_129 : decode cX6_init 129 = .ok (.newarray .int, 2) := by decide +kernel
theorem dX6_init_131 : decode cX6_init 131 = .ok (.putfield 56, 3) := by decide +kernel
theorem dX6_init_134 : decode cX6_init 134 = .ok (.aload_n 0, 1) := by decide +kernel
theorem dX6_init_135 : decode cX6_init 135 = .ok (.bipush 6, 2) := by decide +kernel
theorem dX6_init_137 : decode cX6_init 137 = .ok (.newarray .int, 2) := by decide +kernel
theorem dX6_init_139 : decode cX6_init 139 = .ok (.putfield 59, 3) := by decide +kernel
theorem dX6_init_142 : decode cX6_init 142 = .ok (.aload_n 0, 1) := by decide +kernel
theorem dX6_init_143 : decode cX6_init 143 = .ok (.bipush 20, 2) := by decide +kernel
theorem dX6_init_145 : decode cX6_init 145 = .ok (.newarray .int, 2) := by decide +kernel
theorem dX6_init_147 : decode cX6_init 147 = .ok (.putfield 62, 3) := by decide +kernel
theorem dX6_init_150 : decode cX6_init 150 = .ok (.aload_n 0, 1) := by decide +kernel
theorem dX6_init_151 : decode cX6_init 151 = .ok (.bipush 20, 2) := by decide +kernel
theorem dX6_init_153 : decode cX6_init 153 = .ok (.newarray .int, 2) := by decide +kernel
theorem dX6_init_155 : decode cX6_init 155 = .ok (.putfield 65, 3) := by decide +kernel
theorem dX6_init_158 : decode cX6_init 158 = .ok (.aload_n 0, 1) := by decide +kernel
theorem dX6_init_159 : decode cX6_init 159 = .ok (.bipush 6, 2) := by decide +kernel
theorem dX6_init_161 : decode cX6_init 161 = .ok (.newarray .int, 2) := by decide +kernel
theorem dX6_init_163 : decode cX6_init 163 = .ok (.putfield 68, 3) := by decide +kernel
theorem dX6_init_166 : decode cX6_init 166 = .ok (.aload_n 0, 1) := by decide +kernel
theorem dX6_init_167 : decode cX6_init 167 = .ok (.bipush 6, 2) := by decide +kernel
theorem dX6_init_169 : decode cX6_init 169 = .ok (.newarray .int, 2) := by decide +kernel
theorem dX6_init_171 : decode cX6_init 171 = .ok (.putfield 71, 3) := by decide +kernel
theorem dX6_init_174 : decode cX6_init 174 = .ok (.aload_n 0, 1) := by decide +kernel
theorem dX6_init_175 : decode cX6_init 175 = .ok (.bipush 7, 2) := by decide +kernel
theorem dX6_init_177 : decode cX6_init 177 = .ok (.newarray .int, 2) := by decide +kernel
theorem dX6_init_179 : decode cX6_init 179 = .ok (.putfield 74, 3) := by decide +kernel
theorem dX6_init_182 : decode cX6_init 182 = .ok (.aload_n 0, 1) := by decide +kernel
theorem dX6_init_183 : decode cX6_init 183 = .ok (.bipush 6, 2) := by decide +kernel
theorem dX6_init_185 : decode cX6_init 185 = .ok (.newarray .int, 2) := by decide +kernel
theorem dX6_init_187 : decode cX6_init 187 = .ok (.putfield 77, 3) := by decide +kernel
theorem dX6_init_190 : decode cX6_init 190 = .ok (.aload_n 0, 1) := by decide +kernel
theorem dX6_init_191 : decode cX6_init 191 = .ok (.bipush 6, 2) := by decide +kernel
theorem dX6_init_193 : decode cX6_init 193 = .ok (.newarray .int, 2) := by decide +kernel
theorem dX6_init_195 : decode cX6_init 195 = .ok (.putfield 80, 3) := by decide +kernel
theorem dX6_init_198 : decode cX6_init 198 = .ok (.aload_n 0, 1) := by decide +kernel
theorem dX6_init_199 : decode cX6_init 199 = .ok (.sipush 4096, 3) := by decide +kernel
theorem dX6_init_202 : decode cX6_init 202 = .ok (.newarray .int, 2) := by decide +kernel
theorem dX6_init_204 : decode cX6_init 204 = .ok (.putfield 83, 3) := by decide +kernel
theorem dX6_init_207 : decode cX6_init 207 = .ok (.aload_n 0, 1) := by decide +kernel
theorem dX6_init_208 : decode cX6_init 208 = .ok (.sipush 4096, 3) := by decide +kernel
theorem dX6_init_211 : decode cX6_init 211 = .ok (.newarray .int, 2) := by decide +kernel
theorem dX6_init_213 : decode cX6_init 213 = .ok (.putfield 86, 3) := by decide +kernel
theorem dX6_init_216 : decode cX6_init 216 = .ok (.aload_n 0, 1) := by decide +kernel
theorem dX6_init_217 : decode cX6_init 217 = .ok (.bipush 12, 2) := by decide +kernel
theorem dX6_init_219 : decode cX6_init 219 = .ok (.newarray .int, 2) := by decide +kernel
theorem dX6_init_221 : decode cX6_init 221 = .ok (.putfield 89, 3) := by decide +kernel
theorem dX6_init_224 : decode cX6_init 224 = .ok (.aload_n 0, 1) := by decide +kernel
theorem dX6_init_225 : decode cX6_init 225 = .ok (.bipush 6, 2) := by decide +kernel
theorem dX6_init_227 : decode cX6_init 227 = .ok (.newarray .int, 2) := by decide +kernel
theorem dX6_init_229 : decode cX6_init 229 = .ok (.putfield 92, 3) := by decide +kernel
theorem dX6_init_232 : decode cX6_init 232 = .ok (.aload_n 0, 1) := by decide +kernel
theorem dX6_init_233 : decode cX6_init 233 = .ok (.bipush 6, 2) := by decide +kernel
theorem dX6_init_235 : decode cX6_init 235 = .ok (.newarray .int, 2) := by decide +kernel
theorem dX6_init_237 : decode cX6_init 237 = .ok (.putfield 95, 3) := by decide +kernel
theorem dX6_init_240 : decode cX6_init 240 = .ok (.return_, 1) := by decide +kernel
theorem dX6_isLeap_0 : decode cX6_isLeap 0 = .ok (.iload_n 0, 1) := by decide +kernel
theorem dX6_isLeap_1 : decode cX6_isLeap 1 = .ok (.iconst 1, 1) := by decide +kernel
theorem dX6_isLeap_2 : decode cX6_isLeap 2 = .ok (.if_icmp .ne 17, 3) := by decide +kernel
theorem dX6_isLeap_5 : decode cX6_isLeap 5 = .ok (.iload_n 1, 1) := by decide +kernel
theorem dX6_isLeap_6 : decode cX6_isLeap 6 = .ok (.iconst 4, 1) := by decide +kernel
theorem dX6_isLeap_7 : decode cX6_isLeap 7 = .ok (.irem, 1) := by decide +kernel
theorem dX6_isLeap_8 : decode cX6_isLeap 8 = .ok (.ifCond .ne 7, 3) := by decide +kernel
theorem dX6_isLeap_11 : decode cX6_isLeap 11 = .ok (.iconst 1, 1) := by decide +kernel
theorem dX6_isLeap_12 : decode cX6_isLeap 12 = .ok (.goto 33, 3) := by decide +kernel
theorem dX6_isLeap_15 : decode cX6_isLeap 15 = .ok (.iconst 0, 1) := by decide +kernel
theorem dX6_isLeap_16 : decode cX6_isLeap 16 = .ok (.goto 29, 3) := by decide +kernel
theorem dX6_isLeap_19 : decode cX6_isLeap 19 = .ok (.iload_n 1, 1) := by decide +kernel
theorem dX6_isLeap_20 : decode cX6_isLeap 20 = .ok (.iconst 4, 1) := by decide +kernel
theorem dX6_isLeap_21 : decode cX6_isLeap 21 = .ok (.irem, 1) := by decide +kernel
theorem dX6_isLeap_22 : decode cX6_isLeap 22 = .ok (.ifCond .ne 22, 3) := by decide +kernel
theorem dX6_isLeap_25 : decode cX6_isLeap 25 = .ok (.iload_n 1, 1) := by decide +kernel
theorem dX6_isLeap_26 : decode cX6_isLeap 26 = .ok (.bipush 100, 2) := by decide +kernel
theorem dX6_isLeap_28 : decode cX6_isLeap 28 = .ok (.irem, 1) := by decide +kernel
theorem dX6_isLeap_29 : decode cX6_isLeap 29 = .ok (.ifCond .ne 11, 3) := by decide +kernel
theorem dX6_isLeap_32 : decode cX6_isLeap 32 = .ok (.iload_n 1, 1) := by decide +kernel
theorem dX6_isLeap_33 : decode cX6_isLeap 33 = .ok (.sipush 400, 3) := by decide +kernel
theorem dX6_isLeap_36 : decode cX6_isLeap 36 = .ok (.irem, 1) := by decide +kernel
theorem dX6_isLeap_37 : decode cX6_isLeap 37 = .ok (.ifCond .ne 7, 3) := by decide +kernel
theorem dX6_isLeap_40 : decode cX6_isLeap 40 = .ok (.iconst 1, 1) := by decide +kernel
theorem dX6_isLeap_41 : decode cX6_isLeap 41 = .ok (.goto 4, 3) := by decide +kernel
theorem dX6_isLeap_44 : decode cX6_isLeap 44 = .ok (.iconst 0, 1) := by decide +kernel
theorem dX6_isLeap_45 : decode cX6_isLeap 45 = .ok (.ireturn, 1) := by decide +kernel
set_option maxRecDepth 20000 in
theorem ggX6_lengthOf_X6_isLeap : GoodIn wsX6_lengthOf wsX6_isLeap := goodIn_r _ [4] (by decide +kernel) (by decide +kernel)
set_option maxRecDepth 20000 in
theorem gX6_lengthOf_X6_isLeap : GoodIn wsX6_lengthOf (va_wsS RX6 102 yX6_isLeap wsX6_isLeap) := goodIn_app (goodIn_of _ (by decide +kernel)) ggX6_lengthOf_X6_isLeap
theorem dX6_lengthOf_0 : decode cX6_lengthOf 0 = .ok (.iload_n 0, 1) := by decide +kernel
theorem dX6_lengthOf_1 : decode cX6_lengthOf 1 = .ok (.iconst 2, 1) := by decide +kernel
theorem dX6_lengthOf_2 : decode cX6_lengthOf 2 = .ok (.if_icmp .ne 16, 3) := by decide +kernel
theorem dX6_lengthOf_5 : decode cX6_lengthOf 5 = .ok (.iload_n 2, 1) := by decide +kernel
theorem dX6_lengthOf_6 : decode cX6_lengthOf 6 = .ok (.bipush 13, 2) := by decide +kernel
theorem dX6_lengthOf_8 : decode cX6_lengthOf 8 = .ok (.if_icmp .ne 7, 3) := by decide +kernel
theorem dX6_lengthOf_11 : decode cX6_lengthOf 11 = .ok (.iconst 5, 1) := by decide +kernel
theorem dX6_lengthOf_12 : decode cX6_lengthOf 12 = .ok (.goto 5, 3) := by decide +kernel
theorem dX6_lengthOf_15 : decode cX6_lengthOf 15 = .ok (.bipush 30, 2) := by decide +kernel
theorem dX6_lengthOf_17 : decode cX6_lengthOf 17 = .ok (.ireturn, 1) := by decide +kernel
theorem dX6_lengthOf_18 : decode cX6_lengthOf 18 = .ok (.iload_n 2, 1) := by decide +kernel
theorem dX6_lengthOf_19 : decode cX6_lengthOf 19 = .ok (.iconst 2, 1) := by decide +kernel
theorem dX6_lengthOf_20 : decode cX6_lengthOf 20 = .ok (.if_icmp .ne 19, 3) := by decide +kernel
theorem dX6_lengthOf_23 : decode cX6_lengthOf 23 = .ok (.iload_n 0, 1) := by decide +kernel
theorem dX6_lengthOf_24 : decode cX6_lengthOf 24 = .ok (.iload_n 1, 1) := by decide +kernel
theorem dX6_lengthOf_25 : decode cX6_lengthOf 25 = .ok (.invokestatic 102, 3) := by decide +kernel
theorem dX6_lengthOf_28 : decode cX6_lengthOf 28 = .ok (.ifCond .eq 8, 3) := by decide +kernel
theorem dX6_lengthOf_31 : decode cX6_lengthOf 31 = .ok (.bipush 29, 2) := by decide +kernel
theorem dX6_lengthOf_33 : decode cX6_lengthOf 33 = .ok (.goto 5, 3) := by decide +kernel
theorem dX6_lengthOf_36 : decode cX6_lengthOf 36 = .ok (.bipush 28, 2) := by decide +kernel
theorem dX6_lengthOf_38 : decode cX6_lengthOf 38 = .ok (.ireturn, 1) := by decide +kernel
theorem dX6_lengthOf_39 : decode cX6_lengthOf 39 = .ok (.iload_n 2, 1) := by decide +kernel
theorem dX6_lengthOf_40 : decode cX6_lengthOf 40 = .ok (.iconst 4, 1) := by decide +kernel
theorem dX6_lengthOf_41 : decode cX6_lengthOf 41 = .ok (.if_icmp .eq 21, 3) := by decide +kernel
theorem dX6_lengthOf_44 : decode cX6_lengthOf 44 = .ok (.iload_n 2, 1) := by decide +kernel
theorem dX6_lengthOf_45 : decode cX6_lengthOf 45 = .ok (.bipush 6, 2) := by decide +kernel
theorem dX6_lengthOf_47 : decode cX6_lengthOf 47 = .ok (.if_icmp .eq 15, 3) := by decide +kernel
theorem dX6_lengthOf_50 : decode cX6_lengthOf 50 = .ok (.iload_n 2, 1) := by decide +kernel
theorem dX6_lengthOf_51 : decode cX6_lengthOf 51 = .ok (.bipush 9, 2) := by decide +kernel
theorem dX6_lengthOf_53 : decode cX6_lengthOf 53 = .ok (.if_icmp .eq 9, 3) := by decide +kernel
theorem dX6_lengthOf_56 : decode cX6_lengthOf 56 = .ok (.iload_n 2, 1) := by decide +kernel
theorem dX6_lengthOf_57 : decode cX6_lengthOf 57 = .ok (.bipush 11, 2) := by decide +kernel
theorem dX6_lengthOf_59 : decode cX6_lengthOf 59 = .ok (.if_icmp .ne 8, 3) := by decide +kernel
theorem dX6_lengthOf_62 : decode cX6_lengthOf 62 = .ok (.bipush 30, 2) := by decide +kernel
theorem dX6_lengthOf_64 : decode cX6_lengthOf 64 = .ok (.goto 5, 3) := by decide +kernel
theorem dX6_lengthOf_67 : decode cX6_lengthOf 67 = .ok (.bipush 31, 2) := by decide +kernel
theorem dX6_lengthOf_69 : decode cX6_lengthOf 69 = .ok (.ireturn, 1) := by decide +kernel
theorem dX6_monthsOf_0 : decode cX6_monthsOf 0 = .ok (.iload_n 0, 1) := by decide +kernel
theorem dX6_monthsOf_1 : decode cX6_monthsOf 1 = .ok (.iconst 2, 1) := by decide +kernel
theorem dX6_monthsOf_2 : decode cX6_monthsOf 2 = .ok (.if_icmp .ne 8, 3) := by decide +kernel
theorem dX6_monthsOf_5 : decode cX6_monthsOf 5 = .ok (.bipush 13, 2) := by decide +kernel
theorem dX6_monthsOf_7 : decode cX6_monthsOf 7 = .ok (.goto 5, 3) := by decide +kernel
theorem dX6_monthsOf_10 : decode cX6_monthsOf 10 = .ok (.bipush 12, 2) := by decide +kernel
theorem dX6_monthsOf_12 : decode cX6_monthsOf 12 = .ok (.ireturn, 1) := by decide +kernel
theorem dX6_yearFrom_0 : decode cX6_yearFrom 0 = .ok (.iload_n 1, 1) := by decide +kernel
theorem dX6_yearFrom_1 : decode cX6_yearFrom 1 = .ok (.iconst 1, 1) := by decide +kernel
theorem dX6_yearFrom_2 : decode cX6_yearFrom 2 = .ok (.isub, 1) := by decide +kernel
theorem dX6_yearFrom_3 : decode cX6_yearFrom 3 = .ok (.istore_n 2, 1) := by decide +kernel
theorem dX6_yearFrom_4 : decode cX6_yearFrom 4 = .ok (.iload_n 0, 1) := by decide +kernel
theorem dX6_yearFrom_5 : decode cX6_yearFrom 5 = .ok (.iconst 2, 1) := by decide +kernel
theorem dX6_yearFrom_6 : decode cX6_yearFrom 6 = .ok (.if_icmp .ne 9, 3) := by decide +kernel
theorem dX6_yearFrom_9 : decode cX6_yearFrom 9 = .ok (.sipush 365, 3) := by decide +kernel
theorem dX6_yearFrom_12 : decode cX6_yearFrom 12 = .ok (.iload_n 2, 1) := by decide +kernel
theorem dX6_yearFrom_13 : decode cX6_yearFrom 13 = .ok (.imul, 1) := by decide +kernel
theorem dX6_yearFrom_14 : decode cX6_yearFrom 14 = .ok (.ireturn, 1) := by decide +kernel
theorem dX6_yearFrom_15 : decode cX6_yearFrom 15 = .ok (.iload_n 0, 1) := by decide +kernel
theorem dX6_yearFrom_16 : decode cX6_yearFrom 16 = .ok (.iconst 1, 1) := by decide +kernel
theorem dX6_yearFrom_17 : decode cX6_yearFrom 17 = .ok (.if_icmp .ne 17, 3) := by decide +kernel
theorem dX6_yearFrom_20 : decode cX6_yearFrom 20 = .ok (.sipush 365, 3) := by decide +kernel
theorem dX6_yearFrom_23 : decode cX6_yearFrom 23 = .ok (.iload_n 2, 1) := by decide +kernel
theorem dX6_yearFrom_24 : decode cX6_yearFrom 24 = .ok (.imul, 1) := by decide +kernel
theorem dX6_yearFrom_25 : decode cX6_yearFrom 25 = .ok (.iload_n 2, 1) := by decide +kernel
theorem dX6_yearFrom_26 : decode cX6_yearFrom 26 = .ok (.iconst 4, 1) := by decide +kernel
theorem dX6_yearFrom_27 : decode cX6_yearFrom 27 = .ok (.idiv, 1) := by decide +kernel
theorem dX6_yearFrom_28 : decode cX6_yearFrom 28 = .ok (.iadd, 1) := by decide +kernel
theorem dX6_yearFrom_29 : decode cX6_yearFrom 29 = .ok (.iconst 2, 1) := by decide +kernel
theorem dX6_yearFrom_30 : decode cX6_yearFrom 30 = .ok (.isub, 1) := by decide +kernel
theorem dX6_yearFrom_31 : decode cX6_yearFrom 31 = .ok (.goto 23, 3) := by decide +kernel
theorem dX6_yearFrom_34 : decode cX6_yearFrom 34 = .ok (.sipush 365, 3) := by decide +kernel
theorem dX6_yearFrom_37 : decode cX6_yearFrom 37 = .ok (.iload_n 2, 1) := by decide +kernel
theorem dX6_yearFrom_38 : decode cX6_yearFrom 38 = .ok (.imul, 1) := by decide +kernel
theorem dX6_yearFrom_39 : decode cX6_yearFrom 39 = .ok (.iload_n 2, 1) := by decide +kernel
theorem dX6_yearFrom_40 : decode cX6_yearFrom 40 = .ok (.iconst 4, 1) := by decide +kernel
theorem dX6_yearFrom_41 : decode cX6_yearFrom 41 = .ok (.idiv, 1) := by decide +kernel
theorem dX6_yearFrom_42 : decode cX6_yearFrom 42 = .ok (.iadd, 1) := by decide +kernel
theorem dX6_yearFrom_43 : decode cX6_yearFrom 43 = .ok (.iload_n 2, 1) := by decide +kernel
theorem dX6_yearFrom_44 : decode cX6_yearFrom 44 = .ok (.bipush 100, 2) := by decide +kernel
theorem dX6_yearFrom_46 : decode cX6_yearFrom 46 = .ok (.idiv, 1) := by decide +kernel
theorem dX6_yearFrom_47 : decode cX6_yearFrom 47 = .ok (.isub, 1) := by decide +kernel
theorem dX6_yearFrom_48 : decode cX6_yearFrom 48 = .ok (.iload_n 2, 1) := by decide +kernel
theorem dX6_yearFrom_49 : decode cX6_yearFrom 49 = .ok (.sipush 400, 3) := by decide +kernel
theorem dX6_yearFrom_52 : decode cX6_yearFrom 52 = .ok (.idiv, 1) := by decide +kernel
theorem dX6_yearFrom_53 : decode cX6_yearFrom 53 = .ok (.iadd, 1) := by decide +kernel
theorem dX6_yearFrom_54 : decode cX6_yearFrom 54 = .ok (.ireturn, 1) := by decide +kernel
set_option maxRecDepth 20000 in
theorem ggX6_dayOf_X6_monthsOf : GoodIn wsX6_dayOf wsX6_monthsOf := goodIn_r _ [5] (by decide +kernel) (by decide +kernel)
set_option maxRecDepth 20000 in
theorem gX6_dayOf_X6_monthsOf : GoodIn wsX6_dayOf (va_wsS RX6 106 yX6_monthsOf wsX6_monthsOf) := goodIn_app (goodIn_of _ (by decide +kernel)) ggX6_dayOf_X6_monthsOf
set_option maxRecDepth 20000 in
theorem ggX6_dayOf_X6_lengthOf : GoodIn wsX6_dayOf wsX6_lengthOf := goodIn_r _ [8, 9, 10, 4, 11] (by decide +kernel) (by decide +kernel)
set_option maxRecDepth 20000 in
theorem gX6_dayOf_X6_lengthOf : GoodIn wsX6_dayOf (va_wsS RX6 110 yX6_lengthOf wsX6_lengthOf) := goodIn_app (goodIn_of _ (by decide +kernel)) ggX6_dayOf_X6_lengthOf
set_option maxRecDepth 20000 in
theorem ggX6_dayOf_X6_yearFrom : GoodIn wsX6_dayOf wsX6_yearFrom := goodIn_r _ [14] (by decide +kernel) (by decide +kernel)
set_option maxRecDepth 20000 in
theorem gX6_dayOf_X6_yearFrom : GoodIn wsX6_dayOf (va_wsS RX6 115 yX6_yearFrom wsX6_yearFrom) := goodIn_app (goodIn_of _ (by decide +kernel)) ggX6_dayOf_X6_yearFrom
theorem dX6_dayOf_0 : decode cX6_dayOf 0 = .ok (.iload_n 0, 1) := by decide +kernel
theorem dX6_dayOf_1 : decode cX6_dayOf 1 = .ok (.ifCond .lt 48, 3) := by decide +kernel
theorem dX6_dayOf_4 : decode cX6_dayOf 4 = .ok (.iload_n 0, 1) := by decide +kernel
theorem dX6_dayOf_5 : decode cX6_dayOf 5 = .ok (.iconst 2, 1) := by decide +kernel
theorem dX6_dayOf_6 : decode cX6_dayOf 6 = .ok (.if_icmp .gt 43, 3) := by decide +kernel
theorem dX6_dayOf_9 : decode cX6_dayOf 9 = .ok (.iload_n 1, 1) := by decide +kernel
theorem dX6_dayOf_10 : decode cX6_dayOf 10 = .ok (.iconst 1, 1) := by decide +kernel
theorem dX6_dayOf_11 : decode cX6_dayOf 11 = .ok (.if_icmp .lt 38, 3) := by decide +kernel
theorem dX6_dayOf_14 : decode cX6_dayOf 14 = .ok (.iload_n 1, 1) := by decide +kernel
theorem dX6_dayOf_15 : decode cX6_dayOf 15 = .ok (.sipush 2699, 3) := by decide +kernel
theorem dX6_dayOf_18 : decode cX6_dayOf 18 = .ok (.if_icmp .gt 31, 3) := by decide +kernel
theorem dX6_dayOf_21 : decode cX6_dayOf 21 = .ok (.iload_n 2, 1) := by decide +kernel
theorem dX6_dayOf_22 : decode cX6_dayOf 22 = .ok (.iconst 1, 1) := by decide +kernel
theorem dX6_dayOf_23 : decode cX6_dayOf 23 = .ok (.if_icmp .lt 26, 3) := by decide +kernel
theorem dX6_dayOf_26 : decode cX6_dayOf 26 = .ok (.iload_n 2, 1) := by decide +kernel
theorem dX6_dayOf_27 : decode cX6_dayOf 27 = .ok (.iload_n 0, 1) := by decide +kernel
theorem dX6_dayOf_28 : decode cX6_dayOf 28 = .ok (.invokestatic 106, 3) := by decide +kernel
theorem dX6_dayOf_31 : decode cX6_dayOf 31 = .ok (.if_icmp .gt 18, 3) := by decide +kernel
theorem dX6_dayOf_34 : decode cX6_dayOf 34 = .ok (.iload_n 3, 1) := by decide +kernel
theorem dX6_dayOf_35 : decode cX6_dayOf 35 = .ok (.iconst 1, 1) := by decide +kernel
theorem dX6_dayOf_36 : decode cX6_dayOf 36 = .ok (.if_icmp .lt 13, 3) := by decide +kernel
theorem dX6_dayOf_39 : decode cX6_dayOf 39 = .ok (.iload_n 3, 1) := by decide +kernel
theorem dX6_dayOf_40 : decode cX6_dayOf 40 = .ok (.iload_n 0, 1) := by decide +kernel
theorem dX6_dayOf_41 : decode cX6_dayOf 41 = .ok (.iload_n 1, 1) := by decide +kernel
theorem dX6_dayOf_42 : decode cX6_dayOf 42 = .ok (.iload_n 2, 1) := by decide +kernel
theorem dX6_dayOf_43 : decode cX6_dayOf 43 = .ok (.invokestatic 110, 3) := by decide +kernel
theorem dX6_dayOf_46 : decode cX6_dayOf 46 = .ok (.if_icmp .le 6, 3) := by decide +kernel
theorem dX6_dayOf_49 : decode cX6_dayOf 49 = .ok (.ldc 114, 2) := by decide +kernel
theorem dX6_dayOf_51 : decode cX6_dayOf 51 = .ok (.ireturn, 1) := by decide +kernel
theorem dX6_dayOf_52 : decode cX6_dayOf 52 = .ok (.iload_n 0, 1) := by decide +kernel
theorem dX6_dayOf_53 : decode cX6_dayOf 53 = .ok (.iload_n 1, 1) := by decide +kernel
theorem dX6_dayOf_54 : decode cX6_dayOf 54 = .ok (.invokestatic 115, 3) := by decide +kernel
theorem dX6_dayOf_57 : decode cX6_dayOf 57 = .ok (.iload_n 3, 1) := by decide +kernel
theorem dX6_dayOf_58 : decode cX6_dayOf 58 = .ok (.iadd, 1) := by decide +kernel
theorem dX6_dayOf_59 : decode cX6_dayOf 59 = .ok (.iconst 1, 1) := by decide +kernel
theorem dX6_dayOf_60 : decode cX6_dayOf 60 = .ok (.isub, 1) := by decide +kernel
theorem dX6_dayOf_61 : decode cX6_dayOf 61 = .ok (.istore 4, 2) := by decide +kernel
theorem dX6_dayOf_63 : decode cX6_dayOf 63 = .ok (.iconst 1, 1) := by decide +kernel
theorem dX6_dayOf_64 : decode cX6_dayOf 64 = .ok (.istore 5, 2) := by decide +kernel
theorem dX6_dayOf_66 : decode cX6_dayOf 66 = .ok (.iload 5, 2) := by decide +kernel
theorem dX6_dayOf_68 : decode cX6_dayOf 68 = .ok (.iload_n 2, 1) := by decide +kernel
theorem dX6_dayOf_69 : decode cX6_dayOf 69 = .ok (.if_icmp .ge 21, 3) := by decide +kernel
theorem dX6_dayOf_72 : decode cX6_dayOf 72 = .ok (.iload 4, 2) := by decide +kernel
theorem dX6_dayOf_74 : decode cX6_dayOf 74 = .ok (.iload_n 0, 1) := by decide +kernel
theorem dX6_dayOf_75 : decode cX6_dayOf 75 = .ok (.iload_n 1, 1) := by decide +kernel
theorem dX6_dayOf_76 : decode cX6_dayOf 76 = .ok (.iload 5, 2) := by decide +kernel
theorem dX6_dayOf_78 : decode cX6_dayOf 78 = .ok (.invokestatic 110, 3) := by decide +kernel
theorem dX6_dayOf_81 : decode cX6_dayOf 81 = .ok (.iadd, 1) := by decide +kernel
theorem dX6_dayOf_82 : decode cX6_dayOf 82 = .ok (.istore 4, 2) := by decide +kernel
theorem dX6_dayOf_84 : decode cX6_dayOf 84 = .ok (.iinc 5 1, 3) := by decide +kernel
theorem dX6_dayOf_87 : decode cX6_dayOf 87 = .ok (.goto (-21), 3) := by decide +kernel
theorem dX6_dayOf_90 : decode cX6_dayOf 90 = .ok (.iload 4, 2) := by decide +kernel
theorem dX6_dayOf_92 : decode cX6_dayOf 92 = .ok (.ireturn, 1) := by decide +kernel
theorem dX6_isDay_0 : decode cX6_isDay 0 = .ok (.iload_n 0, 1) := by decide +kernel
theorem dX6_isDay_1 : decode cX6_isDay 1 = .ok (.ifCond .lt 13, 3) := by decide +kernel
theorem dX6_isDay_4 : decode cX6_isDay 4 = .ok (.iload_n 0, 1) := by decide +kernel
theorem dX6_isDay_5 : decode cX6_isDay 5 = .ok (.ldc 119, 2) := by decide +kernel
theorem dX6_isDay_7 : decode cX6_isDay 7 = .ok (.if_icmp .ge 7, 3) := by decide +kernel
theorem dX6_isDay_10 : decode cX6_isDay 10 = .ok (.iconst 1, 1) := by decide +kernel
theorem dX6_isDay_11 : decode cX6_isDay 11 = .ok (.goto 4, 3) := by decide +kernel
theorem dX6_isDay_14 : decode cX6_isDay 14 = .ok (.iconst 0, 1) := by decide +kernel
theorem dX6_isDay_15 : decode cX6_isDay 15 = .ok (.ireturn, 1) := by decide +kernel
set_option maxRecDepth 20000 in
theorem ggX6_day_X6_dayOf : GoodIn wsX6_day wsX6_dayOf := goodIn_r _ [5, 6, 7, 8, 4, 9, 10, 11, 12, 13, 14, 15, 16, 17, 18] (by decide +kernel) (by decide +kernel)
set_option maxRecDepth 20000 in
theorem gX6_day_X6_dayOf : GoodIn wsX6_day (va_wsS RX6 120 yX6_dayOf wsX6_dayOf) := goodIn_app (goodIn_of _ (by decide +kernel)) ggX6_day_X6_dayOf
set_option maxRecDepth 20000 in
theorem ggX6_day_X6_isDay : GoodIn wsX6_day wsX6_isDay := goodIn_r _ [21, 22] (by decide +kernel) (by decide +kernel)
set_option maxRecDepth 20000 in
theorem gX6_day_X6_isDay : GoodIn wsX6_day (va_wsS RX6 124 yX6_isDay wsX6_isDay) := goodIn_app (goodIn_of _ (by decide +kernel)) ggX6_day_X6_isDay
theorem dX6_day_0 : decode cX6_day 0 = .ok (.aload_n 0, 1) := by decide +kernel
theorem dX6_day_1 : decode cX6_day 1 = .ok (.iconst 0, 1) := by decide +kernel
theorem dX6_day_2 : decode cX6_day 2 = .ok (.putfield 98, 3) := by decide +kernel
theorem dX6_day_5 : decode cX6_day 5 = .ok (.iload_n 1, 1) := by decide +kernel
theorem dX6_day_6 : decode cX6_day 6 = .ok (.iload_n 2, 1) := by decide +kernel
theorem dX6_day_7 : decode cX6_day 7 = .ok (.iload_n 3, 1) := by decide +kernel
theorem dX6_day_8 : decode cX6_day 8 = .ok (.iload 4, 2) := by decide +kernel
theorem dX6_day_10 : decode cX6_day 10 = .ok (.invokestatic 120, 3) := by decide +kernel
theorem dX6_day_13 : decode cX6_day 13 = .ok (.istore 5, 2) := by decide +kernel
theorem dX6_day_15 : decode cX6_day 15 = .ok (.iload 5, 2) := by decide +kernel
theorem dX6_day_17 : decode cX6_day 17 = .ok (.invokestatic 124, 3) := by decide +kernel
theorem dX6_day_20 : decode cX6_day 20 = .ok (.ifCond .eq 8, 3) := by decide +kernel
theorem dX6_day_23 : decode cX6_day 23 = .ok (.iload 5, 2) := by decide +kernel
theorem dX6_day_25 : decode cX6_day 25 = .ok (.goto 4, 3) := by decide +kernel
theorem dX6_day_28 : decode cX6_day 28 = .ok (.iconst (-1), 1) := by decide +kernel
theorem dX6_day_29 : decode cX6_day 29 = .ok (.ireturn, 1) := by decide +kernel
set_option maxRecDepth 20000 in
theorem ggX6_finds_X6_isDay : GoodIn wsX6_finds wsX6_isDay := goodIn_r _ [11, 12] (by decide +kernel) (by decide +kernel)
set_option maxRecDepth 20000 in
theorem gX6_finds_X6_isDay : GoodIn wsX6_finds (va_wsS RX6 124 yX6_isDay wsX6_isDay) := goodIn_app (goodIn_of _ (by decide +kernel)) ggX6_finds_X6_isDay
set_option maxRecDepth 20000 in
theorem ggX6_finds_X6_yearFrom : GoodIn wsX6_finds wsX6_yearFrom := goodIn_r _ [15] (by decide +kernel) (by decide +kernel)
set_option maxRecDepth 20000 in
theorem gX6_finds_X6_yearFrom : GoodIn wsX6_finds (va_wsS RX6 115 yX6_yearFrom wsX6_yearFrom) := goodIn_app (goodIn_of _ (by decide +kernel)) ggX6_finds_X6_yearFrom
set_option maxRecDepth 20000 in
theorem ggX6_finds_X6_lengthOf : GoodIn wsX6_finds wsX6_lengthOf := goodIn_r _ [18, 19, 20, 10, 21] (by decide +kernel) (by decide +kernel)
set_option maxRecDepth 20000 in
theorem gX6_finds_X6_lengthOf : GoodIn wsX6_finds (va_wsS RX6 110 yX6_lengthOf wsX6_lengthOf) := goodIn_app (goodIn_of _ (by decide +kernel)) ggX6_finds_X6_lengthOf
theorem dX6_finds_0 : decode cX6_finds 0 = .ok (.iload_n 1, 1) := by decide +kernel
theorem dX6_finds_1 : decode cX6_finds 1 = .ok (.ifCond .lt 15, 3) := by decide +kernel
theorem dX6_finds_4 : decode cX6_finds 4 = .ok (.iload_n 1, 1) := by decide +kernel
theorem dX6_finds_5 : decode cX6_finds 5 = .ok (.iconst 2, 1) := by decide +kernel
theorem dX6_finds_6 : decode cX6_finds 6 = .ok (.if_icmp .gt 10, 3) := by decide +kernel
theorem dX6_finds_9 : decode cX6_finds 9 = .ok (.iload_n 2, 1) := by decide +kernel
theorem dX6_finds_10 : decode cX6_finds 10 = .ok (.invokestatic 124, 3) := by decide +kernel
theorem dX6_finds_13 : decode cX6_finds 13 = .ok (.ifCond .ne 5, 3) := by decide +kernel
theorem dX6_finds_16 : decode cX6_finds 16 = .ok (.iconst 0, 1) := by decide +kernel
theorem dX6_finds_17 : decode cX6_finds 17 = .ok (.ireturn, 1) := by decide +kernel
theorem dX6_finds_18 : decode cX6_finds 18 = .ok (.iload_n 2, 1) := by decide +kernel
theorem dX6_finds_19 : decode cX6_finds 19 = .ok (.sipush 366, 3) := by decide +kernel
theorem dX6_finds_22 : decode cX6_finds 22 = .ok (.idiv, 1) := by decide +kernel
theorem dX6_finds_23 : decode cX6_finds 23 = .ok (.istore_n 3, 1) := by decide +kernel
theorem dX6_finds_24 : decode cX6_finds 24 = .ok (.iconst 1, 1) := by decide +kernel
theorem dX6_finds_25 : decode cX6_finds 25 = .ok (.iload_n 3, 1) := by decide +kernel
theorem dX6_finds_26 : decode cX6_finds 26 = .ok (.invokestatic 128, 3) := by decide +kernel
theorem dX6_finds_29 : decode cX6_finds 29 = .ok (.istore_n 3, 1) := by decide +kernel
theorem dX6_finds_30 : decode cX6_finds 30 = .ok (.iload_n 1, 1) := by decide +kernel
theorem dX6_finds_31 : decode cX6_finds 31 = .ok (.iload_n 3, 1) := by decide +kernel
theorem dX6_finds_32 : decode cX6_finds 32 = .ok (.iconst 1, 1) := by decide +kernel
theorem dX6_finds_33 : decode cX6_finds 33 = .ok (.iadd, 1) := by decide +kernel
theorem dX6_finds_34 : decode cX6_finds 34 = .ok (.invokestatic 115, 3) := by decide +kernel
theorem dX6_finds_37 : decode cX6_finds 37 = .ok (.iload_n 2, 1) := by decide +kernel
theorem dX6_finds_38 : decode cX6_finds 38 = .ok (.if_icmp .gt 9, 3) := by decide +kernel
theorem dX6_finds_41 : decode cX6_finds 41 = .ok (.iinc 3 1, 3) := by decide +kernel
theorem dX6_finds_44 : decode cX6_finds 44 = .ok (.goto (-14), 3) := by decide +kernel
theorem dX6_finds_47 : decode cX6_finds 47 = .ok (.iload_n 3, 1) := by decide +kernel
theorem dX6_finds_48 : decode cX6_finds 48 = .ok (.sipush 2699, 3) := by decide +kernel
theorem dX6_finds_51 : decode cX6_finds 51 = .ok (.if_icmp .le 5, 3) := by decide +kernel
theorem dX6_finds_54 : decode cX6_finds 54 = .ok (.iconst 0, 1) := by decide +kernel
theorem dX6_finds_55 : decode cX6_finds 55 = .ok (.ireturn, 1) := by decide +kernel
theorem dX6_finds_56 : decode cX6_finds 56 = .ok (.iload_n 2, 1) := by decide +kernel
theorem dX6_finds_57 : decode cX6_finds 57 = .ok (.iload_n 1, 1) := by decide +kernel
theorem dX6_finds_58 : decode cX6_finds 58 = .ok (.iload_n 3, 1) := by decide +kernel
theorem dX6_finds_59 : decode cX6_finds 59 = .ok (.invokestatic 115, 3) := by decide +kernel
theorem dX6_finds_62 : decode cX6_finds 62 = .ok (.isub, 1) := by decide +kernel
theorem dX6_finds_63 : decode cX6_finds 63 = .ok (.istore 4, 2) := by decide +kernel
theorem dX6_finds_65 : decode cX6_finds 65 = .ok (.iconst 1, 1) := by decide +kernel
theorem dX6_finds_66 : decode cX6_finds 66 = .ok (.istore 5, 2) := by decide +kernel
theorem dX6_finds_68 : decode cX6_finds 68 = .ok (.iload 4, 2) := by decide +kernel
theorem dX6_finds_70 : decode cX6_finds 70 = .ok (.iload_n 1, 1) := by decide +kernel
theorem dX6_finds_71 : decode cX6_finds 71 = .ok (.iload_n 3, 1) := by decide +kernel
theorem dX6_finds_72 : decode cX6_finds 72 = .ok (.iload 5, 2) := by decide +kernel
theorem dX6_finds_74 : decode cX6_finds 74 = .ok (.invokestatic 110, 3) := by decide +kernel
theorem dX6_finds_77 : decode cX6_finds 77 = .ok (.if_icmp .lt 21, 3) := by decide +kernel
theorem dX6_finds_80 : decode cX6_finds 80 = .ok (.iload 4, 2) := by decide +kernel
theorem dX6_finds_82 : decode cX6_finds 82 = .ok (.iload_n 1, 1) := by decide +kernel
theorem dX6_finds_83 : decode cX6_finds 83 = .ok (.iload_n 3, 1) := by decide +kernel
theorem dX6_finds_84 : decode cX6_finds 84 = .ok (.iload 5, 2) := by decide +kernel
theorem dX6_finds_86 : decode cX6_finds 86 = .ok (.invokestatic 110, 3) := by decide +kernel
theorem dX6_finds_89 : decode cX6_finds 89 = .ok (.isub, 1) := by decide +kernel
theorem dX6_finds_90 : decode cX6_finds 90 = .ok (.istore 4, 2) := by decide +kernel
theorem dX6_finds_92 : decode cX6_finds 92 = .ok (.iinc 5 1, 3) := by decide +kernel
theorem dX6_finds_95 : decode cX6_finds 95 = .ok (.goto (-27), 3) := by decide +kernel
theorem dX6_finds_98 : decode cX6_finds 98 = .ok (.aload_n 0, 1) := by decide +kernel
theorem dX6_finds_99 : decode cX6_finds 99 = .ok (.iload_n 3, 1) := by decide +kernel
theorem dX6_finds_100 : decode cX6_finds 100 = .ok (.putfield 133, 3) := by decide +kernel
theorem dX6_finds_103 : decode cX6_finds 103 = .ok (.aload_n 0, 1) := by decide +kernel
theorem dX6_finds_104 : decode cX6_finds 104 = .ok (.iload 5, 2) := by decide +kernel
theorem dX6_finds_106 : decode cX6_finds 106 = .ok (.putfield 136, 3) := by decide +kernel
theorem dX6_finds_109 : decode cX6_finds 109 = .ok (.aload_n 0, 1) := by decide +kernel
theorem dX6_finds_110 : decode cX6_finds 110 = .ok (.iload 4, 2) := by decide +kernel
theorem dX6_finds_112 : decode cX6_finds 112 = .ok (.iconst 1, 1) := by decide +kernel
theorem dX6_finds_113 : decode cX6_finds 113 = .ok (.iadd, 1) := by decide +kernel
theorem dX6_finds_114 : decode cX6_finds 114 = .ok (.putfield 139, 3) := by decide +kernel
theorem dX6_finds_117 : decode cX6_finds 117 = .ok (.iconst 1, 1) := by decide +kernel
theorem dX6_finds_118 : decode cX6_finds 118 = .ok (.ireturn, 1) := by decide +kernel
set_option maxRecDepth 20000 in
theorem ggX6_date_X6_finds : GoodIn wsX6_date wsX6_finds := goodIn_r _ [9, 10, 11, 12, 13, 2, 3, 4, 14, 15, 8, 16, 17, 18, 19, 20, 21, 22, 23, 24, 25, 26, 27, 28, 29, 30, 31, 32, 33, 34, 35, 36, 37, 38, 39, 40, 41, 42, 43, 44, 45, 46, 47, 48, 49, 50, 51, 52, 53, 54, 55, 56, 57, 58, 59, 60, 61, 62, 63, 64, 65, 66, 67, 68, 69] (by decide +kernel) (by decide +kernel)
set_option maxRecDepth 20000 in
theorem gX6_date_X6_finds : GoodIn wsX6_date (wsV RX6 142 RX6 yX6_finds wsX6_finds) := goodIn_app (goodIn_of _ (by decide +kernel)) ggX6_date_X6_finds
theorem dX6_date_0 : decode cX6_date 0 = .ok (.aload_n 0, 1) := by decide +kernel
theorem dX6_date_1 : decode cX6_date 1 = .ok (.iconst 0, 1) := by decide +kernel
theorem dX6_date_2 : decode cX6_date 2 = .ok (.putfield 98, 3) := by decide +kernel
theorem dX6_date_5 : decode cX6_date 5 = .ok (.aload_n 0, 1) := by decide +kernel
theorem dX6_date_6 : decode cX6_date 6 = .ok (.iload_n 1, 1) := by decide +kernel
theorem dX6_date_7 : decode cX6_date 7 = .ok (.iload_n 2, 1) := by decide +kernel
theorem dX6_date_8 : decode cX6_date 8 = .ok (.invokevirtual 142, 3) := by decide +kernel
theorem dX6_date_11 : decode cX6_date 11 = .ok (.ifCond .ne 5, 3) := by decide +kernel
theorem dX6_date_14 : decode cX6_date 14 = .ok (.iconst (-1), 1) := by decide +kernel
theorem dX6_date_15 : decode cX6_date 15 = .ok (.ireturn, 1) := by decide +kernel
theorem dX6_date_16 : decode cX6_date 16 = .ok (.iload_n 3, 1) := by decide +kernel
theorem dX6_date_17 : decode cX6_date 17 = .ok (.ifCond .ne 10, 3) := by decide +kernel
theorem dX6_date_20 : decode cX6_date 20 = .ok (.aload_n 0, 1) := by decide +kernel
theorem dX6_date_21 : decode cX6_date 21 = .ok (.getfield 133, 3) := by decide +kernel
theorem dX6_date_24 : decode cX6_date 24 = .ok (.goto 28, 3) := by decide +kernel
theorem dX6_date_27 : decode cX6_date 27 = .ok (.iload_n 3, 1) := by decide +kernel
theorem dX6_date_28 : decode cX6_date 28 = .ok (.iconst 1, 1) := by decide +kernel
theorem dX6_date_29 : decode cX6_date 29 = .ok (.if_icmp .ne 10, 3) := by decide +kernel
theorem dX6_date_32 : decode cX6_date 32 = .ok (.aload_n 0, 1) := by decide +kernel
theorem dX6_date_33 : decode cX6_date 33 = .ok (.getfield 136, 3) := by decide +kernel
theorem dX6_date_36 : decode cX6_date 36 = .ok (.goto 16, 3) := by decide +kernel
theorem dX6_date_39 : decode cX6_date 39 = .ok (.iload_n 3, 1) := by decide +kernel
theorem dX6_date_40 : decode cX6_date 40 = .ok (.iconst 2, 1) := by decide +kernel
theorem dX6_date_41 : decode cX6_date 41 = .ok (.if_icmp .ne 10, 3) := by decide +kernel
theorem dX6_date_44 : decode cX6_date 44 = .ok (.aload_n 0, 1) := by decide +kernel
theorem dX6_date_45 : decode cX6_date 45 = .ok (.getfield 139, 3) := by decide +kernel
theorem dX6_date_48 : decode cX6_date 48 = .ok (.goto 4, 3) := by decide +kernel
theorem dX6_date_51 : decode cX6_date 51 = .ok (.iconst (-1), 1) := by decide +kernel
theorem dX6_date_52 : decode cX6_date 52 = .ok (.ireturn, 1) := by decide +kernel
set_option maxRecDepth 20000 in
theorem ggX6_behind_X6_finds : GoodIn wsX6_behind wsX6_finds := goodIn_r _ [9, 10, 11, 12, 13, 1, 2, 3, 14, 15, 8, 16, 17, 18, 19, 20, 21, 22, 23, 24, 25, 26, 33, 34, 35, 36, 37, 38, 39, 40, 41, 42, 43, 44, 45, 46, 47, 48, 49, 50, 51, 52, 53, 54, 55, 56, 57, 58, 59, 60, 61, 62, 63, 64, 65, 66, 67, 68, 69, 70, 71, 72, 73, 74, 75] (by decide +kernel) (by decide +kernel)
set_option maxRecDepth 20000 in
theorem gX6_behind_X6_finds : GoodIn wsX6_behind (wsV RX6 142 RX6 yX6_finds wsX6_finds) := goodIn_app (goodIn_of _ (by decide +kernel)) ggX6_behind_X6_finds
set_option maxRecDepth 20000 in
theorem ggX6_behind_X6_dayOf : GoodIn wsX6_behind wsX6_dayOf := goodIn_r _ [29, 4, 30, 31, 8, 32, 21, 22, 23, 24, 25, 26, 18, 19, 20] (by decide +kernel) (by decide +kernel)
set_option maxRecDepth 20000 in
theorem gX6_behind_X6_dayOf : GoodIn wsX6_behind (va_wsS RX6 120 yX6_dayOf wsX6_dayOf) := goodIn_app (goodIn_of _ (by decide +kernel)) ggX6_behind_X6_dayOf
set_option maxRecDepth 20000 in
theorem ggX6_behind_X6_isDay : GoodIn wsX6_behind wsX6_isDay := goodIn_r _ [16, 17] (by decide +kernel) (by decide +kernel)
set_option maxRecDepth 20000 in
theorem gX6_behind_X6_isDay : GoodIn wsX6_behind (va_wsS RX6 124 yX6_isDay wsX6_isDay) := goodIn_app (goodIn_of _ (by decide +kernel)) ggX6_behind_X6_isDay
theorem dX6_behind_0 : decode cX6_behind 0 = .ok (.aload_n 0, 1) := by decide +kernel
theorem dX6_behind_1 : decode cX6_behind 1 = .ok (.iload_n 1, 1) := by decide +kernel
theorem dX6_behind_2 : decode cX6_behind 2 = .ok (.iload_n 2, 1) := by decide +kernel
theorem dX6_behind_3 : decode cX6_behind 3 = .ok (.invokevirtual 142, 3) := by decide +kernel
theorem dX6_behind_6 : decode cX6_behind 6 = .ok (.ifCond .ne 5, 3) := by decide +kernel
theorem dX6_behind_9 : decode cX6_behind 9 = .ok (.iconst (-1), 1) := by decide +kernel
theorem dX6_behind_10 : decode cX6_behind 10 = .ok (.ireturn, 1) := by decide +kernel
theorem dX6_behind_11 : decode cX6_behind 11 = .ok (.aload_n 0, 1) := by decide +kernel
theorem dX6_behind_12 : decode cX6_behind 12 = .ok (.getfield 133, 3) := by decide +kernel
theorem dX6_behind_15 : decode cX6_behind 15 = .ok (.iload_n 3, 1) := by decide +kernel
theorem dX6_behind_16 : decode cX6_behind 16 = .ok (.iadd, 1) := by decide +kernel
theorem dX6_behind_17 : decode cX6_behind 17 = .ok (.istore 4, 2) := by decide +kernel
theorem dX6_behind_19 : decode cX6_behind 19 = .ok (.iload_n 1, 1) := by decide +kernel
theorem dX6_behind_20 : decode cX6_behind 20 = .ok (.iload 4, 2) := by decide +kernel
theorem dX6_behind_22 : decode cX6_behind 22 = .ok (.aload_n 0, 1) := by decide +kernel
theorem dX6_behind_23 : decode cX6_behind 23 = .ok (.getfield 136, 3) := by decide +kernel
theorem dX6_behind_26 : decode cX6_behind 26 = .ok (.aload_n 0, 1) := by decide +kernel
theorem dX6_behind_27 : decode cX6_behind 27 = .ok (.getfield 139, 3) := by decide +kernel
theorem dX6_behind_30 : decode cX6_behind 30 = .ok (.invokestatic 120, 3) := by decide +kernel
theorem dX6_behind_33 : decode cX6_behind 33 = .ok (.istore 5, 2) := by decide +kernel
theorem dX6_behind_35 : decode cX6_behind 35 = .ok (.iload 5, 2) := by decide +kernel
theorem dX6_behind_37 : decode cX6_behind 37 = .ok (.ldc 114, 2) := by decide +kernel
theorem dX6_behind_39 : decode cX6_behind 39 = .ok (.if_icmp .ne 35, 3) := by decide +kernel
theorem dX6_behind_42 : decode cX6_behind 42 = .ok (.iload_n 1, 1) := by decide +kernel
theorem dX6_behind_43 : decode cX6_behind 43 = .ok (.iconst 2, 1) := by decide +kernel
theorem dX6_behind_44 : decode cX6_behind 44 = .ok (.if_icmp .ge 30, 3) := by decide +kernel
theorem dX6_behind_47 : decode cX6_behind 47 = .ok (.aload_n 0, 1) := by decide +kernel
theorem dX6_behind_48 : decode cX6_behind 48 = .ok (.getfield 136, 3) := by decide +kernel
theorem dX6_behind_51 : decode cX6_behind 51 = .ok (.iconst 2, 1) := by decide +kernel
theorem dX6_behind_52 : decode cX6_behind 52 = .ok (.if_icmp .ne 22, 3) := by decide +kernel
theorem dX6_behind_55 : decode cX6_behind 55 = .ok (.aload_n 0, 1) := by decide +kernel
theorem dX6_behind_56 : decode cX6_behind 56 = .ok (.getfield 139, 3) := by decide +kernel
theorem dX6_behind_59 : decode cX6_behind 59 = .ok (.bipush 29, 2) := by decide +kernel
theorem dX6_behind_61 : decode cX6_behind 61 = .ok (.if_icmp .ne 13, 3) := by decide +kernel
theorem dX6_behind_64 : decode cX6_behind 64 = .ok (.iload_n 1, 1) := by decide +kernel
theorem dX6_behind_65 : decode cX6_behind 65 = .ok (.iload 4, 2) := by decide +kernel
theorem dX6_behind_67 : decode cX6_behind 67 = .ok (.iconst 3, 1) := by decide +kernel
theorem dX6_behind_68 : decode cX6_behind 68 = .ok (.iconst 1, 1) := by decide +kernel
theorem dX6_behind_69 : decode cX6_behind 69 = .ok (.invokestatic 120, 3) := by decide +kernel
theorem dX6_behind_72 : decode cX6_behind 72 = .ok (.istore 5, 2) := by decide +kernel
theorem dX6_behind_74 : decode cX6_behind 74 = .ok (.iload 5, 2) := by decide +kernel
theorem dX6_behind_76 : decode cX6_behind 76 = .ok (.invokestatic 124, 3) := by decide +kernel
theorem dX6_behind_79 : decode cX6_behind 79 = .ok (.ifCond .eq 8, 3) := by decide +kernel
theorem dX6_behind_82 : decode cX6_behind 82 = .ok (.iload 5, 2) := by decide +kernel
theorem dX6_behind_84 : decode cX6_behind 84 = .ok (.goto 4, 3) := by decide +kernel
theorem dX6_behind_87 : decode cX6_behind 87 = .ok (.iconst (-1), 1) := by decide +kernel
theorem dX6_behind_88 : decode cX6_behind 88 = .ok (.ireturn, 1) := by decide +kernel
set_option maxRecDepth 20000 in
theorem ggX6_years_X6_behind : GoodIn wsX6_years wsX6_behind := goodIn_r _ [6, 7, 8, 9, 10, 11, 12, 13, 5, 14, 15, 16, 17, 18, 19, 20, 21, 22, 23, 24, 25, 26, 27, 28, 29, 30, 31, 32, 33, 34, 35, 36, 37, 38, 39, 40, 41, 42, 43, 44, 45, 46, 47, 48, 49, 50, 51, 52, 53, 54, 55, 56, 57, 58, 59, 60, 61, 62, 63, 64, 65, 66, 67, 68, 69, 70, 71, 72, 73, 74, 75, 76, 77, 78, 79, 80] (by decide +kernel) (by decide +kernel)
set_option maxRecDepth 20000 in
theorem gX6_years_X6_behind : GoodIn wsX6_years (wsV RX6 145 RX6 yX6_behind wsX6_behind) := goodIn_app (goodIn_of _ (by decide +kernel)) ggX6_years_X6_behind
theorem dX6_years_0 : decode cX6_years 0 = .ok (.aload_n 0, 1) := by decide +kernel
theorem dX6_years_1 : decode cX6_years 1 = .ok (.iconst 0, 1) := by decide +kernel
theorem dX6_years_2 : decode cX6_years 2 = .ok (.putfield 98, 3) := by decide +kernel
theorem dX6_years_5 : decode cX6_years 5 = .ok (.iload_n 3, 1) := by decide +kernel
theorem dX6_years_6 : decode cX6_years 6 = .ok (.ifCond .lt 9, 3) := by decide +kernel
theorem dX6_years_9 : decode cX6_years 9 = .ok (.iload_n 3, 1) := by decide +kernel
theorem dX6_years_10 : decode cX6_years 10 = .ok (.bipush 100, 2) := by decide +kernel
theorem dX6_years_12 : decode cX6_years 12 = .ok (.if_icmp .le 7, 3) := by decide +kernel
theorem dX6_years_15 : decode cX6_years 15 = .ok (.iconst (-1), 1) := by decide +kernel
theorem dX6_years_16 : decode cX6_years 16 = .ok (.goto 10, 3) := by decide +kernel
theorem dX6_years_19 : decode cX6_years 19 = .ok (.aload_n 0, 1) := by decide +kernel
theorem dX6_years_20 : decode cX6_years 20 = .ok (.iload_n 1, 1) := by decide +kernel
theorem dX6_years_21 : decode cX6_years 21 = .ok (.iload_n 2, 1) := by decide +kernel
theorem dX6_years_22 : decode cX6_years 22 = .ok (.iload_n 3, 1) := by decide +kernel
theorem dX6_years_23 : decode cX6_years 23 = .ok (.invokevirtual 145, 3) := by decide +kernel
theorem dX6_years_26 : decode cX6_years 26 = .ok (.ireturn, 1) := by decide +kernel
set_option maxRecDepth 20000 in
theorem ggX6_king_X6_isDay : GoodIn wsX6_king wsX6_isDay := goodIn_r _ [9, 10] (by decide +kernel) (by decide +kernel)
set_option maxRecDepth 20000 in
theorem gX6_king_X6_isDay : GoodIn wsX6_king (va_wsS RX6 124 yX6_isDay wsX6_isDay) := goodIn_app (goodIn_of _ (by decide +kernel)) ggX6_king_X6_isDay
theorem dX6_king_0 : decode cX6_king 0 = .ok (.aload_n 0, 1) := by decide +kernel
theorem dX6_king_1 : decode cX6_king 1 = .ok (.iconst 0, 1) := by decide +kernel
theorem dX6_king_2 : decode cX6_king 2 = .ok (.putfield 98, 3) := by decide +kernel
theorem dX6_king_5 : decode cX6_king 5 = .ok (.iload_n 1, 1) := by decide +kernel
theorem dX6_king_6 : decode cX6_king 6 = .ok (.ifCond .lt 36, 3) := by decide +kernel
theorem dX6_king_9 : decode cX6_king 9 = .ok (.iload_n 1, 1) := by decide +kernel
theorem dX6_king_10 : decode cX6_king 10 = .ok (.iconst 2, 1) := by decide +kernel
theorem dX6_king_11 : decode cX6_king 11 = .ok (.if_icmp .gt 31, 3) := by decide +kernel
theorem dX6_king_14 : decode cX6_king 14 = .ok (.iload_n 2, 1) := by decide +kernel
theorem dX6_king_15 : decode cX6_king 15 = .ok (.invokestatic 124, 3) := by decide +kernel
theorem dX6_king_18 : decode cX6_king 18 = .ok (.ifCond .eq 24, 3) := by decide +kernel
theorem dX6_king_21 : decode cX6_king 21 = .ok (.iload_n 3, 1) := by decide +kernel
theorem dX6_king_22 : decode cX6_king 22 = .ok (.invokestatic 124, 3) := by decide +kernel
theorem dX6_king_25 : decode cX6_king 25 = .ok (.ifCond .eq 17, 3) := by decide +kernel
theorem dX6_king_28 : decode cX6_king 28 = .ok (.iload_n 2, 1) := by decide +kernel
theorem dX6_king_29 : decode cX6_king 29 = .ok (.iload_n 3, 1) := by decide +kernel
theorem dX6_king_30 : decode cX6_king 30 = .ok (.if_icmp .gt 12, 3) := by decide +kernel
theorem dX6_king_33 : decode cX6_king 33 = .ok (.aload_n 0, 1) := by decide +kernel
theorem dX6_king_34 : decode cX6_king 34 = .ok (.getfield 148, 3) := by decide +kernel
theorem dX6_king_37 : decode cX6_king 37 = .ok (.bipush 6, 2) := by decide +kernel
theorem dX6_king_39 : decode cX6_king 39 = .ok (.if_icmp .ne 5, 3) := by decide +kernel
theorem dX6_king_42 : decode cX6_king 42 = .ok (.iconst (-1), 1) := by decide +kernel
theorem dX6_king_43 : decode cX6_king 43 = .ok (.ireturn, 1) := by decide +kernel
theorem dX6_king_44 : decode cX6_king 44 = .ok (.aload_n 0, 1) := by decide +kernel
theorem dX6_king_45 : decode cX6_king 45 = .ok (.getfield 7, 3) := by decide +kernel
theorem dX6_king_48 : decode cX6_king 48 = .ok (.aload_n 0, 1) := by decide +kernel
theorem dX6_king_49 : decode cX6_king 49 = .ok (.getfield 148, 3) := by decide +kernel
theorem dX6_king_52 : decode cX6_king 52 = .ok (.iload_n 1, 1) := by decide +kernel
theorem dX6_king_53 : decode cX6_king 53 = .ok (.iastore, 1) := by decide +kernel
theorem dX6_king_54 : decode cX6_king 54 = .ok (.aload_n 0, 1) := by decide +kernel
theorem dX6_king_55 : decode cX6_king 55 = .ok (.getfield 13, 3) := by decide +kernel
theorem dX6_king_58 : decode cX6_king 58 = .ok (.aload_n 0, 1) := by decide +kernel
theorem dX6_king_59 : decode cX6_king 59 = .ok (.getfield 148, 3) := by decide +kernel
theorem dX6_king_62 : decode cX6_king 62 = .ok (.iload_n 2, 1) := by decide +kernel
theorem dX6_king_63 : decode cX6_king 63 = .ok (.iastore, 1) := by decide +kernel
theorem dX6_king_64 : decode cX6_king 64 = .ok (.aload_n 0, 1) := by decide +kernel
theorem dX6_king_65 : decode cX6_king 65 = .ok (.getfield 16, 3) := by decide +kernel
theorem dX6_king_68 : decode cX6_king 68 = .ok (.aload_n 0, 1) := by decide +kernel
theorem dX6_king_69 : decode cX6_king 69 = .ok (.getfield 148, 3) := by decide +kernel
theorem dX6_king_72 : decode cX6_king 72 = .ok (.iload_n 3, 1) := by decide +kernel
theorem dX6_king_73 : decode cX6_king 73 = .ok (.iastore, 1) := by decide +kernel
theorem dX6_king_74 : decode cX6_king 74 = .ok (.aload_n 0, 1) := by decide +kernel
theorem dX6_king_75 : decode cX6_king 75 = .ok (.dup, 1) := by decide +kernel
theorem dX6_king_76 : decode cX6_king 76 = .ok (.getfield 148, 3) := by decide +kernel
theorem dX6_king_79 : decode cX6_king 79 = .ok (.iconst 1, 1) := by decide +kernel
theorem dX6_king_80 : decode cX6_king 80 = .ok (.iadd, 1) := by decide +kernel
theorem dX6_king_81 : decode cX6_king 81 = .ok (.putfield 148, 3) := by decide +kernel
theorem dX6_king_84 : decode cX6_king 84 = .ok (.aload_n 0, 1) := by decide +kernel
theorem dX6_king_85 : decode cX6_king 85 = .ok (.getfield 148, 3) := by decide +kernel
theorem dX6_king_88 : decode cX6_king 88 = .ok (.iconst 1, 1) := by decide +kernel
theorem dX6_king_89 : decode cX6_king 89 = .ok (.isub, 1) := by decide +kernel
theorem dX6_king_90 : decode cX6_king 90 = .ok (.ireturn, 1) := by decide +kernel
theorem dX6_event_0 : decode cX6_event 0 = .ok (.aload_n 0, 1) := by decide +kernel
theorem dX6_event_1 : decode cX6_event 1 = .ok (.iconst 0, 1) := by decide +kernel
theorem dX6_event_2 : decode cX6_event 2 = .ok (.putfield 98, 3) := by decide +kernel
theorem dX6_event_5 : decode cX6_event 5 = .ok (.aload_n 0, 1) := by decide +kernel
theorem dX6_event_6 : decode cX6_event 6 = .ok (.getfield 151, 3) := by decide +kernel
theorem dX6_event_9 : decode cX6_event 9 = .ok (.bipush 6, 2) := by decide +kernel
theorem dX6_event_11 : decode cX6_event 11 = .ok (.if_icmp .ne 5, 3) := by decide +kernel
theorem dX6_event_14 : decode cX6_event 14 = .ok (.iconst (-1), 1) := by decide +kernel
theorem dX6_event_15 : decode cX6_event 15 = .ok (.ireturn, 1) := by decide +kernel
theorem dX6_event_16 : decode cX6_event 16 = .ok (.aload_n 0, 1) := by decide +kernel
theorem dX6_event_17 : decode cX6_event 17 = .ok (.dup, 1) := by decide +kernel
theorem dX6_event_18 : decode cX6_event 18 = .ok (.getfield 151, 3) := by decide +kernel
theorem dX6_event_21 : decode cX6_event 21 = .ok (.iconst 1, 1) := by decide +kernel
theorem dX6_event_22 : decode cX6_event 22 = .ok (.iadd, 1) := by decide +kernel
theorem dX6_event_23 : decode cX6_event 23 = .ok (.putfield 151, 3) := by decide +kernel
theorem dX6_event_26 : decode cX6_event 26 = .ok (.aload_n 0, 1) := by decide +kernel
theorem dX6_event_27 : decode cX6_event 27 = .ok (.getfield 151, 3) := by decide +kernel
theorem dX6_event_30 : decode cX6_event 30 = .ok (.iconst 1, 1) := by decide +kernel
theorem dX6_event_31 : decode cX6_event 31 = .ok (.isub, 1) := by decide +kernel
theorem dX6_event_32 : decode cX6_event 32 = .ok (.ireturn, 1) := by decide +kernel
theorem dX6_lays_0 : decode cX6_lays 0 = .ok (.iconst 0, 1) := by decide +kernel
theorem dX6_lays_1 : decode cX6_lays 1 = .ok (.iload_n 1, 1) := by decide +kernel
theorem dX6_lays_2 : decode cX6_lays 2 = .ok (.invokestatic 128, 3) := by decide +kernel
theorem dX6_lays_5 : decode cX6_lays 5 = .ok (.istore_n 3, 1) := by decide +kernel
theorem dX6_lays_6 : decode cX6_lays 6 = .ok (.ldc 154, 2) := by decide +kernel
theorem dX6_lays_8 : decode cX6_lays 8 = .ok (.iload_n 2, 1) := by decide +kernel
theorem dX6_lays_9 : decode cX6_lays 9 = .ok (.invokestatic 155, 3) := by decide +kernel
theorem dX6_lays_12 : decode cX6_lays 12 = .ok (.istore 4, 2) := by decide +kernel
theorem dX6_lays_14 : decode cX6_lays 14 = .ok (.iload_n 3, 1) := by decide +kernel
theorem dX6_lays_15 : decode cX6_lays 15 = .ok (.iload 4, 2) := by decide +kernel
theorem dX6_lays_17 : decode cX6_lays 17 = .ok (.if_icmp .le 4, 3) := by decide +kernel
theorem dX6_lays_20 : decode cX6_lays 20 = .ok (.return_, 1) := by decide +kernel
theorem dX6_lays_21 : decode cX6_lays 21 = .ok (.bipush 10, 2) := by decide +kernel
theorem dX6_lays_23 : decode cX6_lays 23 = .ok (.aload_n 0, 1) := by decide +kernel
theorem dX6_lays_24 : decode cX6_lays 24 = .ok (.getfield 158, 3) := by decide +kernel
theorem dX6_lays_27 : decode cX6_lays 27 = .ok (.imul, 1) := by decide +kernel
theorem dX6_lays_28 : decode cX6_lays 28 = .ok (.aload_n 0, 1) := by decide +kernel
theorem dX6_lays_29 : decode cX6_lays 29 = .ok (.getfield 50, 3) := by decide +kernel
theorem dX6_lays_32 : decode cX6_lays 32 = .ok (.aload_n 0, 1) := by decide +kernel
theorem dX6_lays_33 : decode cX6_lays 33 = .ok (.getfield 158, 3) := by decide +kernel
theorem dX6_lays_36 : decode cX6_lays 36 = .ok (.iaload, 1) := by decide +kernel
theorem dX6_lays_37 : decode cX6_lays 37 = .ok (.iadd, 1) := by decide +kernel
theorem dX6_lays_38 : decode cX6_lays 38 = .ok (.istore 5, 2) := by decide +kernel
theorem dX6_lays_40 : decode cX6_lays 40 = .ok (.aload_n 0, 1) := by decide +kernel
theorem dX6_lays_41 : decode cX6_lays 41 = .ok (.getfield 44, 3) := by decide +kernel
theorem dX6_lays_44 : decode cX6_lays 44 = .ok (.iload 5, 2) := by decide +kernel
theorem dX6_lays_46 : decode cX6_lays 46 = .ok (.iload_n 3, 1) := by decide +kernel
theorem dX6_lays_47 : decode cX6_lays 47 = .ok (.iastore, 1) := by decide +kernel
theorem dX6_lays_48 : decode cX6_lays 48 = .ok (.aload_n 0, 1) := by decide +kernel
theorem dX6_lays_49 : decode cX6_lays 49 = .ok (.getfield 47, 3) := by decide +kernel
theorem dX6_lays_52 : decode cX6_lays 52 = .ok (.iload 5, 2) := by decide +kernel
theorem dX6_lays_54 : decode cX6_lays 54 = .ok (.iload 4, 2) := by decide +kernel
theorem dX6_lays_56 : decode cX6_lays 56 = .ok (.iastore, 1) := by decide +kernel
theorem dX6_lays_57 : decode cX6_lays 57 = .ok (.aload_n 0, 1) := by decide +kernel
theorem dX6_lays_58 : decode cX6_lays 58 = .ok (.getfield 50, 3) := by decide +kernel
theorem dX6_lays_61 : decode cX6_lays 61 = .ok (.aload_n 0, 1) := by decide +kernel
theorem dX6_lays_62 : decode cX6_lays 62 = .ok (.getfield 158, 3) := by decide +kernel
theorem dX6_lays_65 : decode cX6_lays 65 = .ok (.dup2, 1) := by decide +kernel
theorem dX6_lays_66 : decode cX6_lays 66 = .ok (.iaload, 1) := by decide +kernel
theorem dX6_lays_67 : decode cX6_lays 67 = .ok (.iconst 1, 1) := by decide +kernel
theorem dX6_lays_68 : decode cX6_lays 68 = .ok (.iadd, 1) := by decide +kernel
theorem dX6_lays_69 : decode cX6_lays 69 = .ok (.iastore, 1) := by decide +kernel
theorem dX6_lays_70 : decode cX6_lays 70 = .ok (.return_, 1) := by decide +kernel
theorem dX6_isYear_0 : decode cX6_isYear 0 = .ok (.iload_n 1, 1) := by decide +kernel
theorem dX6_isYear_1 : decode cX6_isYear 1 = .ok (.ifCond .lt 24, 3) := by decide +kernel
theorem dX6_isYear_4 : decode cX6_isYear 4 = .ok (.iload_n 1, 1) := by decide +kernel
theorem dX6_isYear_5 : decode cX6_isYear 5 = .ok (.iconst 2, 1) := by decide +kernel
theorem dX6_isYear_6 : decode cX6_isYear 6 = .ok (.if_icmp .gt 19, 3) := by decide +kernel
theorem dX6_isYear_9 : decode cX6_isYear 9 = .ok (.iload_n 2, 1) := by decide +kernel
theorem dX6_isYear_10 : decode cX6_isYear 10 = .ok (.iconst 1, 1) := by decide +kernel
theorem dX6_isYear_11 : decode cX6_isYear 11 = .ok (.if_icmp .lt 14, 3) := by decide +kernel
theorem dX6_isYear_14 : decode cX6_isYear 14 = .ok (.iload_n 2, 1) := by decide +kernel
theorem dX6_isYear_15 : decode cX6_isYear 15 = .ok (.sipush 2699, 3) := by decide +kernel
theorem dX6_isYear_18 : decode cX6_isYear 18 = .ok (.if_icmp .gt 7, 3) := by decide +kernel
theorem dX6_isYear_21 : decode cX6_isYear 21 = .ok (.iconst 1, 1) := by decide +kernel
theorem dX6_isYear_22 : decode cX6_isYear 22 = .ok (.goto 4, 3) := by decide +kernel
theorem dX6_isYear_25 : decode cX6_isYear 25 = .ok (.iconst 0, 1) := by decide +kernel
theorem dX6_isYear_26 : decode cX6_isYear 26 = .ok (.ireturn, 1) := by decide +kernel
set_option maxRecDepth 20000 in
theorem ggX6_spans_X6_isDay : GoodIn wsX6_spans wsX6_isDay := goodIn_r _ [7, 8] (by decide +kernel) (by decide +kernel)
set_option maxRecDepth 20000 in
theorem gX6_spans_X6_isDay : GoodIn wsX6_spans (va_wsS RX6 124 yX6_isDay wsX6_isDay) := goodIn_app (goodIn_of _ (by decide +kernel)) ggX6_spans_X6_isDay
set_option maxRecDepth 20000 in
theorem ggX6_spans_X6_lays : GoodIn wsX6_spans wsX6_lays := goodIn_r _ [12, 13, 14, 15, 16, 17, 18, 19, 20, 2, 1, 21, 22, 61, 62, 63, 64, 65, 66, 67, 68, 69, 70, 71, 72, 73, 74, 75, 76, 77, 78, 79, 80, 81, 82, 83, 84, 85, 86, 87, 88, 89, 90, 91, 92, 93, 94, 95, 96, 97, 98, 99, 100, 101, 102, 103] (by decide +kernel) (by decide +kernel)
set_option maxRecDepth 20000 in
theorem gX6_spans_X6_lays : GoodIn wsX6_spans (wsV RX6 161 RX6 yX6_lays wsX6_lays) := goodIn_app (goodIn_of _ (by decide +kernel)) ggX6_spans_X6_lays
set_option maxRecDepth 20000 in
theorem ggX6_spans_X6_dayOf : GoodIn wsX6_spans wsX6_dayOf := goodIn_r _ [25, 3, 26, 27, 6, 28, 29, 30, 31, 32, 33, 34, 35, 36, 37] (by decide +kernel) (by decide +kernel)
set_option maxRecDepth 20000 in
theorem gX6_spans_X6_dayOf : GoodIn wsX6_spans (va_wsS RX6 120 yX6_dayOf wsX6_dayOf) := goodIn_app (goodIn_of _ (by decide +kernel)) ggX6_spans_X6_dayOf
set_option maxRecDepth 20000 in
theorem ggX6_spans_X6_isYear : GoodIn wsX6_spans wsX6_isYear := goodIn_r _ [41] (by decide +kernel) (by decide +kernel)
set_option maxRecDepth 20000 in
theorem gX6_spans_X6_isYear : GoodIn wsX6_spans (wsV RX6 165 RX6 yX6_isYear wsX6_isYear) := goodIn_app (goodIn_of _ (by decide +kernel)) ggX6_spans_X6_isYear
set_option maxRecDepth 20000 in
theorem ggX6_spans_X6_monthsOf : GoodIn wsX6_spans wsX6_monthsOf := goodIn_r _ [28] (by decide +kernel) (by decide +kernel)
set_option maxRecDepth 20000 in
theorem gX6_spans_X6_monthsOf : GoodIn wsX6_spans (va_wsS RX6 106 yX6_monthsOf wsX6_monthsOf) := goodIn_app (goodIn_of _ (by decide +kernel)) ggX6_spans_X6_monthsOf
set_option maxRecDepth 20000 in
theorem ggX6_spans_X6_lengthOf : GoodIn wsX6_spans wsX6_lengthOf := goodIn_r _ [31, 32, 33, 6, 34] (by decide +kernel) (by decide +kernel)
set_option maxRecDepth 20000 in
theorem gX6_spans_X6_lengthOf : GoodIn wsX6_spans (va_wsS RX6 110 yX6_lengthOf wsX6_lengthOf) := goodIn_app (goodIn_of _ (by decide +kernel)) ggX6_spans_X6_lengthOf
set_option maxRecDepth 20000 in
theorem ggX6_spans_X6_yearFrom : GoodIn wsX6_spans wsX6_yearFrom := goodIn_r _ [37] (by decide +kernel) (by decide +kernel)
set_option maxRecDepth 20000 in
theorem gX6_spans_X6_yearFrom : GoodIn wsX6_spans (va_wsS RX6 115 yX6_yearFrom wsX6_yearFrom) := goodIn_app (goodIn_of _ (by decide +kernel)) ggX6_spans_X6_yearFrom
set_option maxRecDepth 20000 in
theorem ggX6_spans_X6_reign : GoodIn wsX6_spans wsX6_reign := goodIn_r _ [45, 46, 47, 48, 49, 50, 51, 52, 6, 53, 54, 55, 56, 3, 57, 58, 59, 60, 13, 14, 15, 16, 4, 5, 7, 8, 35, 36, 37, 29, 30, 31, 32, 33, 34, 23, 24, 25, 26, 27, 28, 9, 10, 11, 12, 17, 18, 19, 20, 2, 1, 21, 22, 61, 62, 63, 64, 65, 66, 67, 68, 69, 70, 71, 72, 73, 74, 75, 76, 77, 78, 79, 80, 81, 82, 83, 84, 85, 86, 87, 88, 89, 90, 91, 92, 93, 94, 95, 96, 97, 98, 99, 100, 101, 102, 103] (by decide +kernel) (by decide +kernel)
set_option maxRecDepth 20000 in
theorem gX6_spans_X6_reign : GoodIn wsX6_spans (wsV RX6 168 RX6 yX6_reign wsX6_reign) := goodIn_app (goodIn_of _ (by decide +kernel)) ggX6_spans_X6_reign
theorem dX6_spans_0 : decode cX6_spans 0 = .ok (.aload_n 0, 1) := by decide +kernel
theorem dX6_spans_1 : decode cX6_spans 1 = .ok (.getfield 50, 3) := by decide +kernel
theorem dX6_spans_4 : decode cX6_spans 4 = .ok (.aload_n 0, 1) := by decide +kernel
theorem dX6_spans_5 : decode cX6_spans 5 = .ok (.getfield 158, 3) := by decide +kernel
theorem dX6_spans_8 : decode cX6_spans 8 = .ok (.iconst 0, 1) := by decide +kernel
theorem dX6_spans_9 : decode cX6_spans 9 = .ok (.iastore, 1) := by decide +kernel
theorem dX6_spans_10 : decode cX6_spans 10 = .ok (.iload_n 1, 1) := by decide +kernel
theorem dX6_spans_11 : decode cX6_spans 11 = .ok (.tableswitch 199 0 4 #[33, 61, 107, 160, 190], 33) := by decide +kernel
theorem dX6_spans_44 : decode cX6_spans 44 = .ok (.iload_n 2, 1) := by decide +kernel
theorem dX6_spans_45 : decode cX6_spans 45 = .ok (.invokestatic 124, 3) := by decide +kernel
theorem dX6_spans_48 : decode cX6_spans 48 = .ok (.ifCond .eq 231, 3) := by decide +kernel
theorem dX6_spans_51 : decode cX6_spans 51 = .ok (.iload_n 3, 1) := by decide +kernel
theorem dX6_spans_52 : decode cX6_spans 52 = .ok (.invokestatic 124, 3) := by decide +kernel
theorem dX6_spans_55 : decode cX6_spans 55 = .ok (.ifCond .eq 224, 3) := by decide +kernel
theorem dX6_spans_58 : decode cX6_spans 58 = .ok (.iload_n 2, 1) := by decide +kernel
theorem dX6_spans_59 : decode cX6_spans 59 = .ok (.iload_n 3, 1) := by decide +kernel
theorem dX6_spans_60 : decode cX6_spans 60 = .ok (.if_icmp .gt 219, 3) := by decide +kernel
theorem dX6_spans_63 : decode cX6_spans 63 = .ok (.aload_n 0, 1) := by decide +kernel
theorem dX6_spans_64 : decode cX6_spans 64 = .ok (.iload_n 2, 1) := by decide +kernel
theorem dX6_spans_65 : decode cX6_spans 65 = .ok (.iload_n 3, 1) := by decide +kernel
theorem dX6_spans_66 : decode cX6_spans 66 = .ok (.invokevirtual 161, 3) := by decide +kernel
theorem dX6_spans_69 : decode cX6_spans 69 = .ok (.goto 210, 3) := by decide +kernel
theorem dX6_spans_72 : decode cX6_spans 72 = .ok (.iload 4, 2) := by decide +kernel
theorem dX6_spans_74 : decode cX6_spans 74 = .ok (.ifCond .ge 8, 3) := by decide +kernel
theorem dX6_spans_77 : decode cX6_spans 77 = .ok (.ldc 114, 2) := by decide +kernel
theorem dX6_spans_79 : decode cX6_spans 79 = .ok (.goto 18, 3) := by decide +kernel
theorem dX6_spans_82 : decode cX6_spans 82 = .ok (.iload_n 2, 1) := by decide +kernel
theorem dX6_spans_83 : decode cX6_spans 83 = .ok (.iload_n 3, 1) := by decide +kernel
theorem dX6_spans_84 : decode cX6_spans 84 = .ok (.iload 4, 2) := by decide +kernel
theorem dX6_spans_86 : decode cX6_spans 86 = .ok (.bipush 100, 2) := by decide +kernel
theorem dX6_spans_88 : decode cX6_spans 88 = .ok (.idiv, 1) := by decide +kernel
theorem dX6_spans_89 : decode cX6_spans 89 = .ok (.iload 4, 2) := by decide +kernel
theorem dX6_spans_91 : decode cX6_spans 91 = .ok (.bipush 100, 2) := by decide +kernel
theorem dX6_spans_93 : decode cX6_spans 93 = .ok (.irem, 1) := by decide +kernel
theorem dX6_spans_94 : decode cX6_spans 94 = .ok (.invokestatic 120, 3) := by decide +kernel
theorem dX6_spans_97 : decode cX6_spans 97 = .ok (.istore 5, 2) := by decide +kernel
theorem dX6_spans_99 : decode cX6_spans 99 = .ok (.iload 5, 2) := by decide +kernel
theorem dX6_spans_101 : decode cX6_spans 101 = .ok (.invokestatic 124, 3) := by decide +kernel
theorem dX6_spans_104 : decode cX6_spans 104 = .ok (.ifCond .eq 175, 3) := by decide +kernel
theorem dX6_spans_107 : decode cX6_spans 107 = .ok (.aload_n 0, 1) := by decide +kernel
theorem dX6_spans_108 : decode cX6_spans 108 = .ok (.iload 5, 2) := by decide +kernel
theorem dX6_spans_110 : decode cX6_spans 110 = .ok (.iload 5, 2) := by decide +kernel
theorem dX6_spans_112 : decode cX6_spans 112 = .ok (.invokevirtual 161, 3) := by decide +kernel
theorem dX6_spans_115 : decode cX6_spans 115 = .ok (.goto 164, 3) := by decide +kernel
theorem dX6_spans_118 : decode cX6_spans 118 = .ok (.aload_n 0, 1) := by decide +kernel
theorem dX6_spans_119 : decode cX6_spans 119 = .ok (.iload_n 2, 1) := by decide +kernel
theorem dX6_spans_120 : decode cX6_spans 120 = .ok (.iload_n 3, 1) := by decide +kernel
theorem dX6_spans_121 : decode cX6_spans 121 = .ok (.invokevirtual 165, 3) := by decide +kernel
theorem dX6_spans_124 : decode cX6_spans 124 = .ok (.ifCond .eq 155, 3) := by decide +kernel
theorem dX6_spans_127 : decode cX6_spans 127 = .ok (.iload 4, 2) := by decide +kernel
theorem dX6_spans_129 : decode cX6_spans 129 = .ok (.iconst 1, 1) := by decide +kernel
theorem dX6_spans_130 : decode cX6_spans 130 = .ok (.if_icmp .lt 149, 3) := by decide +kernel
theorem dX6_spans_133 : decode cX6_spans 133 = .ok (.iload 4, 2) := by decide +kernel
theorem dX6_spans_135 : decode cX6_spans 135 = .ok (.iload_n 2, 1) := by decide +kernel
theorem dX6_spans_136 : decode cX6_spans 136 = .ok (.invokestatic 106, 3) := by decide +kernel
theorem dX6_spans_139 : decode cX6_spans 139 = .ok (.if_icmp .gt 140, 3) := by decide +kernel
theorem dX6_spans_142 : decode cX6_spans 142 = .ok (.aload_n 0, 1) := by decide +kernel
theorem dX6_spans_143 : decode cX6_spans 143 = .ok (.iload_n 2, 1) := by decide +kernel
theorem dX6_spans_144 : decode cX6_spans 144 = .ok (.iload_n 3, 1) := by decide +kernel
theorem dX6_spans_145 : decode cX6_spans 145 = .ok (.iload 4, 2) := by decide +kernel
theorem dX6_spans_147 : decode cX6_spans 147 = .ok (.iconst 1, 1) := by decide +kernel
theorem dX6_spans_148 : decode cX6_spans 148 = .ok (.invokestatic 120, 3) := by decide +kernel
theorem dX6_spans_151 : decode cX6_spans 151 = .ok (.iload_n 2, 1) := by decide +kernel
theorem dX6_spans_152 : decode cX6_spans 152 = .ok (.iload_n 3, 1) := by decide +kernel
theorem dX6_spans_153 : decode cX6_spans 153 = .ok (.iload 4, 2) := by decide +kernel
theorem dX6_spans_155 : decode cX6_spans 155 = .ok (.iload_n 2, 1) := by decide +kernel
theorem dX6_spans_156 : decode cX6_spans 156 = .ok (.iload_n 3, 1) := by decide +kernel
theorem dX6_spans_157 : decode cX6_spans 157 = .ok (.iload 4, 2) := by decide +kernel
theorem dX6_spans_159 : decode cX6_spans 159 = .ok (.invokestatic 110, 3) := by decide +kernel
theorem dX6_spans_162 : decode cX6_spans 162 = .ok (.invokestatic 120, 3) := by decide +kernel
theorem dX6_spans_165 : decode cX6_spans 165 = .ok (.invokevirtual 161, 3) := by decide +kernel
theorem dX6_spans_168 : decode cX6_spans 168 = .ok (.goto 111, 3) := by decide +kernel
theorem dX6_spans_171 : decode cX6_spans 171 = .ok (.aload_n 0, 1) := by decide +kernel
theorem dX6_spans_172 : decode cX6_spans 172 = .ok (.iload_n 2, 1) := by decide +kernel
theorem dX6_spans_173 : decode cX6_spans 173 = .ok (.iload_n 3, 1) := by decide +kernel
theorem dX6_spans_174 : decode cX6_spans 174 = .ok (.invokevirtual 165, 3) := by decide +kernel
theorem dX6_spans_177 : decode cX6_spans 177 = .ok (.ifCond .eq 102, 3) := by decide +kernel
theorem dX6_spans_180 : decode cX6_spans 180 = .ok (.aload_n 0, 1) := by decide +kernel
theorem dX6_spans_181 : decode cX6_spans 181 = .ok (.iload_n 2, 1) := by decide +kernel
theorem dX6_spans_182 : decode cX6_spans 182 = .ok (.iload_n 3, 1) := by decide +kernel
theorem dX6_spans_183 : decode cX6_spans 183 = .ok (.invokestatic 115, 3) := by decide +kernel
theorem dX6_spans_186 : decode cX6_spans 186 = .ok (.iload_n 2, 1) := by decide +kernel
theorem dX6_spans_187 : decode cX6_spans 187 = .ok (.iload_n 3, 1) := by decide +kernel
theorem dX6_spans_188 : decode cX6_spans 188 = .ok (.iconst 1, 1) := by decide +kernel
theorem dX6_spans_189 : decode cX6_spans 189 = .ok (.iadd, 1) := by decide +kernel
theorem dX6_spans_190 : decode cX6_spans 190 = .ok (.invokestatic 115, 3) := by decide +kernel
theorem dX6_spans_193 : decode cX6_spans 193 = .ok (.iconst 1, 1) := by decide +kernel
theorem dX6_spans_194 : decode cX6_spans 194 = .ok (.isub, 1) := by decide +kernel
theorem dX6_spans_195 : decode cX6_spans 195 = .ok (.invokevirtual 161, 3) := by decide +kernel
theorem dX6_spans_198 : decode cX6_spans 198 = .ok (.goto 81, 3) := by decide +kernel
theorem dX6_spans_201 : decode cX6_spans 201 = .ok (.aload_n 0, 1) := by decide +kernel
theorem dX6_spans_202 : decode cX6_spans 202 = .ok (.iload_n 2, 1) := by decide +kernel
theorem dX6_spans_203 : decode cX6_spans 203 = .ok (.iload_n 3, 1) := by decide +kernel
theorem dX6_spans_204 : decode cX6_spans 204 = .ok (.invokevirtual 168, 3) := by decide +kernel
theorem dX6_spans_207 : decode cX6_spans 207 = .ok (.goto 72, 3) := by decide +kernel
theorem dX6_spans_210 : decode cX6_spans 210 = .ok (.iconst 0, 1) := by decide +kernel
theorem dX6_spans_211 : decode cX6_spans 211 = .ok (.istore 5, 2) := by decide +kernel
theorem dX6_spans_213 : decode cX6_spans 213 = .ok (.iload 5, 2) := by decide +kernel
theorem dX6_spans_215 : decode cX6_spans 215 = .ok (.bipush 10, 2) := by decide +kernel
theorem dX6_spans_217 : decode cX6_spans 217 = .ok (.if_icmp .ge 62, 3) := by decide +kernel
theorem dX6_spans_220 : decode cX6_spans 220 = .ok (.iload 4, 2) := by decide +kernel
theorem dX6_spans_222 : decode cX6_spans 222 = .ok (.ifCond .lt 57, 3) := by decide +kernel
theorem dX6_spans_225 : decode cX6_spans 225 = .ok (.iload_n 3, 1) := by decide +kernel
theorem dX6_spans_226 : decode cX6_spans 226 = .ok (.iconst 1, 1) := by decide +kernel
theorem dX6_spans_227 : decode cX6_spans 227 = .ok (.if_icmp .lt 52, 3) := by decide +kernel
theorem dX6_spans_230 : decode cX6_spans 230 = .ok (.iload_n 3, 1) := by decide +kernel
theorem dX6_spans_231 : decode cX6_spans 231 = .ok (.sipush 2699, 3) := by decide +kernel
theorem dX6_spans_234 : decode cX6_spans 234 = .ok (.if_icmp .gt 45, 3) := by decide +kernel
theorem dX6_spans_237 : decode cX6_spans 237 = .ok (.iload_n 2, 1) := by decide +kernel
theorem dX6_spans_238 : decode cX6_spans 238 = .ok (.iload_n 3, 1) := by decide +kernel
theorem dX6_spans_239 : decode cX6_spans 239 = .ok (.iload 5, 2) := by decide +kernel
theorem dX6_spans_241 : decode cX6_spans 241 = .ok (.iadd, 1) := by decide +kernel
theorem dX6_spans_242 : decode cX6_spans 242 = .ok (.iload 4, 2) := by decide +kernel
theorem dX6_spans_244 : decode cX6_spans 244 = .ok (.bipush 100, 2) := by decide +kernel
theorem dX6_spans_246 : decode cX6_spans 246 = .ok (.idiv, 1) := by decide +kernel
theorem dX6_spans_247 : decode cX6_spans 247 = .ok (.iload 4, 2) := by decide +kernel
theorem dX6_spans_249 : decode cX6_spans 249 = .ok (.bipush 100, 2) := by decide +kernel
theorem dX6_spans_251 : decode cX6_spans 251 = .ok (.irem, 1) := by decide +kernel
theorem dX6_spans_252 : decode cX6_spans 252 = .ok (.invokestatic 120, 3) := by decide +kernel
theorem dX6_spans_255 : decode cX6_spans 255 = .ok (.istore 6, 2) := by decide +kernel
theorem dX6_spans_257 : decode cX6_spans 257 = .ok (.iload 6, 2) := by decide +kernel
theorem dX6_spans_259 : decode cX6_spans 259 = .ok (.invokestatic 124, 3) := by decide +kernel
theorem dX6_spans_262 : decode cX6_spans 262 = .ok (.ifCond .eq 11, 3) := by decide +kernel
theorem dX6_spans_265 : decode cX6_spans 265 = .ok (.aload_n 0, 1) := by decide +kernel
theorem dX6_spans_266 : decode cX6_spans 266 = .ok (.iload 6, 2) := by decide +kernel
theorem dX6_spans_268 : decode cX6_spans 268 = .ok (.iload 6, 2) := by decide +kernel
theorem dX6_spans_270 : decode cX6_spans 270 = .ok (.invokevirtual 161, 3) := by decide +kernel
theorem dX6_spans_273 : decode cX6_spans 273 = .ok (.iinc 5 1, 3) := by decide +kernel
theorem dX6_spans_276 : decode cX6_spans 276 = .ok (.goto (-63), 3) := by decide +kernel
theorem dX6_spans_279 : decode cX6_spans 279 = .ok (.aload_n 0, 1) := by decide +kernel
theorem dX6_spans_280 : decode cX6_spans 280 = .ok (.getfield 50, 3) := by decide +kernel
theorem dX6_spans_283 : decode cX6_spans 283 = .ok (.aload_n 0, 1) := by decide +kernel
theorem dX6_spans_284 : decode cX6_spans 284 = .ok (.getfield 158, 3) := by decide +kernel
theorem dX6_spans_287 : decode cX6_spans 287 = .ok (.iaload, 1) := by decide +kernel
theorem dX6_spans_288 : decode cX6_spans 288 = .ok (.ifCond .le 7, 3) := by decide +kernel
theorem dX6_spans_291 : decode cX6_spans 291 = .ok (.iconst 1, 1) := by decide +kernel
theorem dX6_spans_292 : decode cX6_spans 292 = .ok (.goto 4, 3) := by decide +kernel
theorem dX6_spans_295 : decode cX6_spans 295 = .ok (.iconst 0, 1) := by decide +kernel
theorem dX6_spans_296 : decode cX6_spans 296 = .ok (.ireturn, 1) := by decide +kernel
set_option maxRecDepth 20000 in
theorem ggX6_reign_X6_behind : GoodIn wsX6_reign wsX6_behind := goodIn_r _ [9, 10, 11, 12, 13, 14, 15, 16, 8, 17, 18, 19, 20, 21, 22, 23, 24, 25, 26, 27, 28, 29, 30, 31, 32, 33, 34, 35, 36, 37, 38, 39, 40, 53, 54, 55, 56, 57, 58, 59, 60, 61, 62, 63, 64, 65, 66, 67, 68, 69, 70, 71, 72, 73, 74, 75, 76, 77, 78, 79, 80, 81, 82, 83, 84, 85, 86, 87, 88, 89, 90, 91, 92, 93, 94, 95] (by decide +kernel) (by decide +kernel)
set_option maxRecDepth 20000 in
theorem gX6_reign_X6_behind : GoodIn wsX6_reign (wsV RX6 145 RX6 yX6_behind wsX6_behind) := goodIn_app (goodIn_of _ (by decide +kernel)) ggX6_reign_X6_behind
set_option maxRecDepth 20000 in
theorem ggX6_reign_X6_lays : GoodIn wsX6_reign wsX6_lays := goodIn_r _ [44, 18, 19, 20, 21, 45, 46, 47, 48, 49, 50, 51, 52, 53, 54, 55, 56, 57, 58, 59, 60, 61, 62, 63, 64, 65, 66, 67, 68, 69, 70, 71, 72, 73, 74, 75, 76, 77, 78, 79, 80, 81, 82, 83, 84, 85, 86, 87, 88, 89, 90, 91, 92, 93, 94, 95] (by decide +kernel) (by decide +kernel)
set_option maxRecDepth 20000 in
theorem gX6_reign_X6_lays : GoodIn wsX6_reign (wsV RX6 161 RX6 yX6_lays wsX6_lays) := goodIn_app (goodIn_of _ (by decide +kernel)) ggX6_reign_X6_lays
theorem dX6_reign_0 : decode cX6_reign 0 = .ok (.iload_n 1, 1) := by decide +kernel
theorem dX6_reign_1 : decode cX6_reign 1 = .ok (.ifCond .lt 22, 3) := by decide +kernel
theorem dX6_reign_4 : decode cX6_reign 4 = .ok (.iload_n 1, 1) := by decide +kernel
theorem dX6_reign_5 : decode cX6_reign 5 = .ok (.aload_n 0, 1) := by decide +kernel
theorem dX6_reign_6 : decode cX6_reign 6 = .ok (.getfield 148, 3) := by decide +kernel
theorem dX6_reign_9 : decode cX6_reign 9 = .ok (.if_icmp .ge 14, 3) := by decide +kernel
theorem dX6_reign_12 : decode cX6_reign 12 = .ok (.iload_n 2, 1) := by decide +kernel
theorem dX6_reign_13 : decode cX6_reign 13 = .ok (.iconst 1, 1) := by decide +kernel
theorem dX6_reign_14 : decode cX6_reign 14 = .ok (.if_icmp .lt 9, 3) := by decide +kernel
theorem dX6_reign_17 : decode cX6_reign 17 = .ok (.iload_n 2, 1) := by decide +kernel
theorem dX6_reign_18 : decode cX6_reign 18 = .ok (.bipush 60, 2) := by decide +kernel
theorem dX6_reign_20 : decode cX6_reign 20 = .ok (.if_icmp .le 4, 3) := by decide +kernel
theorem dX6_reign_23 : decode cX6_reign 23 = .ok (.return_, 1) := by decide +kernel
theorem dX6_reign_24 : decode cX6_reign 24 = .ok (.aload_n 0, 1) := by decide +kernel
theorem dX6_reign_25 : decode cX6_reign 25 = .ok (.aload_n 0, 1) := by decide +kernel
theorem dX6_reign_26 : decode cX6_reign 26 = .ok (.getfield 7, 3) := by decide +kernel
theorem dX6_reign_29 : decode cX6_reign 29 = .ok (.iload_n 1, 1) := by decide +kernel
theorem dX6_reign_30 : decode cX6_reign 30 = .ok (.iaload, 1) := by decide +kernel
theorem dX6_reign_31 : decode cX6_reign 31 = .ok (.aload_n 0, 1) := by decide +kernel
theorem dX6_reign_32 : decode cX6_reign 32 = .ok (.getfield 13, 3) := by decide +kernel
theorem dX6_reign_35 : decode cX6_reign 35 = .ok (.iload_n 1, 1) := by decide +kernel
theorem dX6_reign_36 : decode cX6_reign 36 = .ok (.iaload, 1) := by decide +kernel
theorem dX6_reign_37 : decode cX6_reign 37 = .ok (.iload_n 2, 1) := by decide +kernel
theorem dX6_reign_38 : decode cX6_reign 38 = .ok (.iconst 1, 1) := by decide +kernel
theorem dX6_reign_39 : decode cX6_reign 39 = .ok (.isub, 1) := by decide +kernel
theorem dX6_reign_40 : decode cX6_reign 40 = .ok (.invokevirtual 145, 3) := by decide +kernel
theorem dX6_reign_43 : decode cX6_reign 43 = .ok (.istore_n 3, 1) := by decide +kernel
theorem dX6_reign_44 : decode cX6_reign 44 = .ok (.aload_n 0, 1) := by decide +kernel
theorem dX6_reign_45 : decode cX6_reign 45 = .ok (.aload_n 0, 1) := by decide +kernel
theorem dX6_reign_46 : decode cX6_reign 46 = .ok (.getfield 7, 3) := by decide +kernel
theorem dX6_reign_49 : decode cX6_reign 49 = .ok (.iload_n 1, 1) := by decide +kernel
theorem dX6_reign_50 : decode cX6_reign 50 = .ok (.iaload, 1) := by decide +kernel
theorem dX6_reign_51 : decode cX6_reign 51 = .ok (.aload_n 0, 1) := by decide +kernel
theorem dX6_reign_52 : decode cX6_reign 52 = .ok (.getfield 16, 3) := by decide +kernel
theorem dX6_reign_55 : decode cX6_reign 55 = .ok (.iload_n 1, 1) := by decide +kernel
theorem dX6_reign_56 : decode cX6_reign 56 = .ok (.iaload, 1) := by decide +kernel
theorem dX6_reign_57 : decode cX6_reign 57 = .ok (.iload_n 2, 1) := by decide +kernel
theorem dX6_reign_58 : decode cX6_reign 58 = .ok (.invokevirtual 145, 3) := by decide +kernel
theorem dX6_reign_61 : decode cX6_reign 61 = .ok (.istore 4, 2) := by decide +kernel
theorem dX6_reign_63 : decode cX6_reign 63 = .ok (.iload_n 3, 1) := by decide +kernel
theorem dX6_reign_64 : decode cX6_reign 64 = .ok (.iconst (-1), 1) := by decide +kernel
theorem dX6_reign_65 : decode cX6_reign 65 = .ok (.if_icmp .eq 18, 3) := by decide +kernel
theorem dX6_reign_68 : decode cX6_reign 68 = .ok (.iload 4, 2) := by decide +kernel
theorem dX6_reign_70 : decode cX6_reign 70 = .ok (.iconst (-1), 1) := by decide +kernel
theorem dX6_reign_71 : decode cX6_reign 71 = .ok (.if_icmp .eq 12, 3) := by decide +kernel
theorem dX6_reign_74 : decode cX6_reign 74 = .ok (.aload_n 0, 1) := by decide +kernel
theorem dX6_reign_75 : decode cX6_reign 75 = .ok (.iload_n 3, 1) := by decide +kernel
theorem dX6_reign_76 : decode cX6_reign 76 = .ok (.iload 4, 2) := by decide +kernel
theorem dX6_reign_78 : decode cX6_reign 78 = .ok (.iconst 1, 1) := by decide +kernel
theorem dX6_reign_79 : decode cX6_reign 79 = .ok (.isub, 1) := by decide +kernel
theorem dX6_reign_80 : decode cX6_reign 80 = .ok (.invokevirtual 161, 3) := by decide +kernel
theorem dX6_reign_83 : decode cX6_reign 83 = .ok (.return_, 1) := by decide +kernel
set_option maxRecDepth 20000 in
theorem ggX6_canSay_X6_spans : GoodIn wsX6_canSay wsX6_spans := goodIn_r _ [10, 1, 2, 11, 12, 13, 9, 14, 15, 16, 17, 18, 19, 20, 21, 22, 23, 24, 25, 26, 27, 28, 29, 30, 31, 32, 33, 34, 35, 36, 37, 38, 39, 40, 41, 42, 43, 44, 45, 46, 47, 48, 49, 50, 51, 52, 53, 54, 55, 56, 57, 58, 59, 60, 61, 62, 63, 64, 65, 66, 67, 68, 69, 70, 71, 72, 73, 74, 75, 76, 77, 78, 79, 80, 81, 82, 83, 84, 85, 86, 87, 88, 89, 90, 91, 92, 93, 94, 95, 96, 97, 98, 99, 100, 101, 102, 103, 104, 105, 106, 107, 108, 109, 110] (by decide +kernel) (by decide +kernel)
set_option maxRecDepth 20000 in
theorem gX6_canSay_X6_spans : GoodIn wsX6_canSay (wsV RX6 171 RX6 yX6_spans wsX6_spans) := goodIn_app (goodIn_of _ (by decide +kernel)) ggX6_canSay_X6_spans
theorem dX6_canSay_0 : decode cX6_canSay 0 = .ok (.iload_n 2, 1) := by decide +kernel
theorem dX6_canSay_1 : decode cX6_canSay 1 = .ok (.ifCond .lt 9, 3) := by decide +kernel
theorem dX6_canSay_4 : decode cX6_canSay 4 = .ok (.iload_n 2, 1) := by decide +kernel
theorem dX6_canSay_5 : decode cX6_canSay 5 = .ok (.bipush 6, 2) := by decide +kernel
theorem dX6_canSay_7 : decode cX6_canSay 7 = .ok (.if_icmp .le 5, 3) := by decide +kernel
theorem dX6_canSay_10 : decode cX6_canSay 10 = .ok (.iconst 0, 1) := by decide +kernel
theorem dX6_canSay_11 : decode cX6_canSay 11 = .ok (.ireturn, 1) := by decide +kernel
theorem dX6_canSay_12 : decode cX6_canSay 12 = .ok (.iload_n 2, 1) := by decide +kernel
theorem dX6_canSay_13 : decode cX6_canSay 13 = .ok (.bipush 6, 2) := by decide +kernel
theorem dX6_canSay_15 : decode cX6_canSay 15 = .ok (.if_icmp .ge 14, 3) := by decide +kernel
theorem dX6_canSay_18 : decode cX6_canSay 18 = .ok (.aload_n 0, 1) := by decide +kernel
theorem dX6_canSay_19 : decode cX6_canSay 19 = .ok (.iload_n 2, 1) := by decide +kernel
theorem dX6_canSay_20 : decode cX6_canSay 20 = .ok (.iload_n 3, 1) := by decide +kernel
theorem dX6_canSay_21 : decode cX6_canSay 21 = .ok (.iload 4, 2) := by decide +kernel
theorem dX6_canSay_23 : decode cX6_canSay 23 = .ok (.iload 5, 2) := by decide +kernel
theorem dX6_canSay_25 : decode cX6_canSay 25 = .ok (.invokevirtual 171, 3) := by decide +kernel
theorem dX6_canSay_28 : decode cX6_canSay 28 = .ok (.ireturn, 1) := by decide +kernel
theorem dX6_canSay_29 : decode cX6_canSay 29 = .ok (.aload_n 0, 1) := by decide +kernel
theorem dX6_canSay_30 : decode cX6_canSay 30 = .ok (.getfield 50, 3) := by decide +kernel
theorem dX6_canSay_33 : decode cX6_canSay 33 = .ok (.aload_n 0, 1) := by decide +kernel
theorem dX6_canSay_34 : decode cX6_canSay 34 = .ok (.getfield 158, 3) := by decide +kernel
theorem dX6_canSay_37 : decode cX6_canSay 37 = .ok (.iconst 0, 1) := by decide +kernel
theorem dX6_canSay_38 : decode cX6_canSay 38 = .ok (.iastore, 1) := by decide +kernel
theorem dX6_canSay_39 : decode cX6_canSay 39 = .ok (.iload_n 3, 1) := by decide +kernel
theorem dX6_canSay_40 : decode cX6_canSay 40 = .ok (.ldc 175, 2) := by decide +kernel
theorem dX6_canSay_42 : decode cX6_canSay 42 = .ok (.if_icmp .lt 40, 3) := by decide +kernel
theorem dX6_canSay_45 : decode cX6_canSay 45 = .ok (.iload 4, 2) := by decide +kernel
theorem dX6_canSay_47 : decode cX6_canSay 47 = .ok (.ldc 176, 2) := by decide +kernel
theorem dX6_canSay_49 : decode cX6_canSay 49 = .ok (.if_icmp .gt 33, 3) := by decide +kernel
theorem dX6_canSay_52 : decode cX6_canSay 52 = .ok (.iload_n 3, 1) := by decide +kernel
theorem dX6_canSay_53 : decode cX6_canSay 53 = .ok (.iload 4, 2) := by decide +kernel
theorem dX6_canSay_55 : decode cX6_canSay 55 = .ok (.if_icmp .gt 27, 3) := by decide +kernel
theorem dX6_canSay_58 : decode cX6_canSay 58 = .ok (.iload 5, 2) := by decide +kernel
theorem dX6_canSay_60 : decode cX6_canSay 60 = .ok (.ifCond .lt 22, 3) := by decide +kernel
theorem dX6_canSay_63 : decode cX6_canSay 63 = .ok (.iload 5, 2) := by decide +kernel
theorem dX6_canSay_65 : decode cX6_canSay 65 = .ok (.aload_n 0, 1) := by decide +kernel
theorem dX6_canSay_66 : decode cX6_canSay 66 = .ok (.getfield 151, 3) := by decide +kernel
theorem dX6_canSay_69 : decode cX6_canSay 69 = .ok (.if_icmp .ge 13, 3) := by decide +kernel
theorem dX6_canSay_72 : decode cX6_canSay 72 = .ok (.iload 5, 2) := by decide +kernel
theorem dX6_canSay_74 : decode cX6_canSay 74 = .ok (.iload_n 1, 1) := by decide +kernel
theorem dX6_canSay_75 : decode cX6_canSay 75 = .ok (.if_icmp .eq 7, 3) := by decide +kernel
theorem dX6_canSay_78 : decode cX6_canSay 78 = .ok (.iconst 1, 1) := by decide +kernel
theorem dX6_canSay_79 : decode cX6_canSay 79 = .ok (.goto 4, 3) := by decide +kernel
theorem dX6_canSay_82 : decode cX6_canSay 82 = .ok (.iconst 0, 1) := by decide +kernel
theorem dX6_canSay_83 : decode cX6_canSay 83 = .ok (.ireturn, 1) := by decide +kernel
set_option maxRecDepth 20000 in
theorem ggX6_say_X6_canSay : GoodIn wsX6_say wsX6_canSay := goodIn_r _ [16, 17, 3, 18, 19, 2, 20, 21, 22, 15, 23, 24, 25, 26, 27, 28, 29, 30, 31, 32, 33, 34, 35, 36, 37, 38, 39, 40, 41, 42, 43, 44, 45, 46, 47, 48, 49, 50, 51, 52, 53, 54, 55, 56, 57, 58, 59, 60, 61, 62, 63, 64, 65, 66, 67, 68, 69, 70, 71, 72, 73, 74, 75, 76, 77, 78, 79, 80, 81, 82, 83, 84, 85, 86, 87, 88, 89, 90, 91, 92, 93, 94, 95, 96, 97, 98, 99, 100, 101, 102, 103, 104, 105, 106, 107, 108, 109, 110, 111, 112, 113, 114, 115, 116, 117, 118, 119, 120, 121, 122, 123] (by decide +kernel) (by decide +kernel)
set_option maxRecDepth 20000 in
theorem gX6_say_X6_canSay : GoodIn wsX6_say (wsV RX6 177 RX6 yX6_canSay wsX6_canSay) := goodIn_app (goodIn_of _ (by decide +kernel)) ggX6_say_X6_canSay
theorem dX6_say_0 : decode cX6_say 0 = .ok (.aload_n 0, 1) := by decide +kernel
theorem dX6_say_1 : decode cX6_say 1 = .ok (.iconst 0, 1) := by decide +kernel
theorem dX6_say_2 : decode cX6_say 2 = .ok (.putfield 98, 3) := by decide +kernel
theorem dX6_say_5 : decode cX6_say 5 = .ok (.iload_n 1, 1) := by decide +kernel
theorem dX6_say_6 : decode cX6_say 6 = .ok (.ifCond .lt 47, 3) := by decide +kernel
theorem dX6_say_9 : decode cX6_say 9 = .ok (.iload_n 1, 1) := by decide +kernel
theorem dX6_say_10 : decode cX6_say 10 = .ok (.aload_n 0, 1) := by decide +kernel
theorem dX6_say_11 : decode cX6_say 11 = .ok (.getfield 151, 3) := by decide +kernel
theorem dX6_say_14 : decode cX6_say 14 = .ok (.if_icmp .ge 39, 3) := by decide +kernel
theorem dX6_say_17 : decode cX6_say 17 = .ok (.iload 6, 2) := by decide +kernel
theorem dX6_say_19 : decode cX6_say 19 = .ok (.iconst 1, 1) := by decide +kernel
theorem dX6_say_20 : decode cX6_say 20 = .ok (.if_icmp .lt 33, 3) := by decide +kernel
theorem dX6_say_23 : decode cX6_say 23 = .ok (.iload 6, 2) := by decide +kernel
theorem dX6_say_25 : decode cX6_say 25 = .ok (.bipush 100, 2) := by decide +kernel
theorem dX6_say_27 : decode cX6_say 27 = .ok (.if_icmp .gt 26, 3) := by decide +kernel
theorem dX6_say_30 : decode cX6_say 30 = .ok (.aload_n 0, 1) := by decide +kernel
theorem dX6_say_31 : decode cX6_say 31 = .ok (.getfield 158, 3) := by decide +kernel
theorem dX6_say_34 : decode cX6_say 34 = .ok (.bipush 12, 2) := by decide +kernel
theorem dX6_say_36 : decode cX6_say 36 = .ok (.if_icmp .eq 17, 3) := by decide +kernel
theorem dX6_say_39 : decode cX6_say 39 = .ok (.aload_n 0, 1) := by decide +kernel
theorem dX6_say_40 : decode cX6_say 40 = .ok (.iload_n 1, 1) := by decide +kernel
theorem dX6_say_41 : decode cX6_say 41 = .ok (.iload_n 2, 1) := by decide +kernel
theorem dX6_say_42 : decode cX6_say 42 = .ok (.iload_n 3, 1) := by decide +kernel
theorem dX6_say_43 : decode cX6_say 43 = .ok (.iload 4, 2) := by decide +kernel
theorem dX6_say_45 : decode cX6_say 45 = .ok (.iload 5, 2) := by decide +kernel
theorem dX6_say_47 : decode cX6_say 47 = .ok (.invokevirtual 177, 3) := by decide +kernel
theorem dX6_say_50 : decode cX6_say 50 = .ok (.ifCond .ne 5, 3) := by decide +kernel
theorem dX6_say_53 : decode cX6_say 53 = .ok (.iconst (-1), 1) := by decide +kernel
theorem dX6_say_54 : decode cX6_say 54 = .ok (.ireturn, 1) := by decide +kernel
theorem dX6_say_55 : decode cX6_say 55 = .ok (.aload_n 0, 1) := by decide +kernel
theorem dX6_say_56 : decode cX6_say 56 = .ok (.getfield 19, 3) := by decide +kernel
theorem dX6_say_59 : decode cX6_say 59 = .ok (.aload_n 0, 1) := by decide +kernel
theorem dX6_say_60 : decode cX6_say 60 = .ok (.getfield 158, 3) := by decide +kernel
theorem dX6_say_63 : decode cX6_say 63 = .ok (.iload_n 1, 1) := by decide +kernel
theorem dX6_say_64 : decode cX6_say 64 = .ok (.iastore, 1) := by decide +kernel
theorem dX6_say_65 : decode cX6_say 65 = .ok (.aload_n 0, 1) := by decide +kernel
theorem dX6_say_66 : decode cX6_say 66 = .ok (.getfield 22, 3) := by decide +kernel
theorem dX6_say_69 : decode cX6_say 69 = .ok (.aload_n 0, 1) := by decide +kernel
theorem dX6_say_70 : decode cX6_say 70 = .ok (.getfield 158, 3) := by decide +kernel
theorem dX6_say_73 : decode cX6_say 73 = .ok (.iload_n 2, 1) := by decide +kernel
theorem dX6_say_74 : decode cX6_say 74 = .ok (.iastore, 1) := by decide +kernel
theorem dX6_say_75 : decode cX6_say 75 = .ok (.aload_n 0, 1) := by decide +kernel
theorem dX6_say_76 : decode cX6_say 76 = .ok (.getfield 25, 3) := by decide +kernel
theorem dX6_say_79 : decode cX6_say 79 = .ok (.aload_n 0, 1) := by decide +kernel
theorem dX6_say_80 : decode cX6_say 80 = .ok (.getfield 158, 3) := by decide +kernel
theorem dX6_say_83 : decode cX6_say 83 = .ok (.iload_n 3, 1) := by decide +kernel
theorem dX6_say_84 : decode cX6_say 84 = .ok (.iastore, 1) := by decide +kernel
theorem dX6_say_85 : decode cX6_say 85 = .ok (.aload_n 0, 1) := by decide +kernel
theorem dX6_say_86 : decode cX6_say 86 = .ok (.getfield 28, 3) := by decide +kernel
theorem dX6_say_89 : decode cX6_say 89 = .ok (.aload_n 0, 1) := by decide +kernel
theorem dX6_say_90 : decode cX6_say 90 = .ok (.getfield 158, 3) := by decide +kernel
theorem dX6_say_93 : decode cX6_say 93 = .ok (.iload 4, 2) := by decide +kernel
theorem dX6_say_95 : decode cX6_say 95 = .ok (.iastore, 1) := by decide +kernel
theorem dX6_say_96 : decode cX6_say 96 = .ok (.aload_n 0, 1) := by decide +kernel
theorem dX6_say_97 : decode cX6_say 97 = .ok (.getfield 31, 3) := by decide +kernel
theorem dX6_say_100 : decode cX6_say 100 = .ok (.aload_n 0, 1) := by decide +kernel
theorem dX6_say_101 : decode cX6_say 101 = .ok (.getfield 158, 3) := by decide +kernel
theorem dX6_say_104 : decode cX6_say 104 = .ok (.iload 5, 2) := by decide +kernel
theorem dX6_say_106 : decode cX6_say 106 = .ok (.iastore, 1) := by decide +kernel
theorem dX6_say_107 : decode cX6_say 107 = .ok (.aload_n 0, 1) := by decide +kernel
theorem dX6_say_108 : decode cX6_say 108 = .ok (.getfield 34, 3) := by decide +kernel
theorem dX6_say_111 : decode cX6_say 111 = .ok (.aload_n 0, 1) := by decide +kernel
theorem dX6_say_112 : decode cX6_say 112 = .ok (.getfield 158, 3) := by decide +kernel
theorem dX6_say_115 : decode cX6_say 115 = .ok (.iload 6, 2) := by decide +kernel
theorem dX6_say_117 : decode cX6_say 117 = .ok (.iastore, 1) := by decide +kernel
theorem dX6_say_118 : decode cX6_say 118 = .ok (.aload_n 0, 1) := by decide +kernel
theorem dX6_say_119 : decode cX6_say 119 = .ok (.getfield 37, 3) := by decide +kernel
theorem dX6_say_122 : decode cX6_say 122 = .ok (.aload_n 0, 1) := by decide +kernel
theorem dX6_say_123 : decode cX6_say 123 = .ok (.getfield 158, 3) := by decide +kernel
theorem dX6_say_126 : decode cX6_say 126 = .ok (.iconst (-1), 1) := by decide +kernel
theorem dX6_say_127 : decode cX6_say 127 = .ok (.iastore, 1) := by decide +kernel
theorem dX6_say_128 : decode cX6_say 128 = .ok (.aload_n 0, 1) := by decide +kernel
theorem dX6_say_129 : decode cX6_say 129 = .ok (.getfield 40, 3) := by decide +kernel
theorem dX6_say_132 : decode cX6_say 132 = .ok (.aload_n 0, 1) := by decide +kernel
theorem dX6_say_133 : decode cX6_say 133 = .ok (.getfield 158, 3) := by decide +kernel
theorem dX6_say_136 : decode cX6_say 136 = .ok (.iconst 1, 1) := by decide +kernel
theorem dX6_say_137 : decode cX6_say 137 = .ok (.bastore, 1) := by decide +kernel
theorem dX6_say_138 : decode cX6_say 138 = .ok (.aload_n 0, 1) := by decide +kernel
theorem dX6_say_139 : decode cX6_say 139 = .ok (.dup, 1) := by decide +kernel
theorem dX6_say_140 : decode cX6_say 140 = .ok (.getfield 158, 3) := by decide +kernel
theorem dX6_say_143 : decode cX6_say 143 = .ok (.iconst 1, 1) := by decide +kernel
theorem dX6_say_144 : decode cX6_say 144 = .ok (.iadd, 1) := by decide +kernel
theorem dX6_say_145 : decode cX6_say 145 = .ok (.putfield 158, 3) := by decide +kernel
theorem dX6_say_148 : decode cX6_say 148 = .ok (.aload_n 0, 1) := by decide +kernel
theorem dX6_say_149 : decode cX6_say 149 = .ok (.getfield 158, 3) := by decide +kernel
theorem dX6_say_152 : decode cX6_say 152 = .ok (.iconst 1, 1) := by decide +kernel
theorem dX6_say_153 : decode cX6_say 153 = .ok (.isub, 1) := by decide +kernel
theorem dX6_say_154 : decode cX6_say 154 = .ok (.ireturn, 1) := by decide +kernel
end
section
theorem dX6_isSaying_0 : decode cX6_isSaying 0 = .ok (.iload_n 1, 1) := by decide +kernel
theorem dX6_isSaying_1 : decode cX6_isSaying 1 = .ok (.ifCond .lt 15, 3) := by decide +kernel
theorem dX6_isSaying_4 : decode cX6_isSaying 4 = .ok (.iload_n 1, 1) := by decide +kernel
theorem dX6_isSaying_5 : decode cX6_isSaying 5 = .ok (.aload_n 0, 1) := by decide +kernel
theorem dX6_isSaying_6 : decode cX6_isSaying 6 = .ok (.getfield 158, 3) := by decide +kernel
theorem dX6_isSaying_9 : decode cX6_isSaying 9 = .ok (.if_icmp .ge 7, 3) := by decide +kernel
theorem dX6_isSaying_12 : decode cX6_isSaying 12 = .ok (.iconst 1, 1) := by decide +kernel
theorem dX6_isSaying_13 : decode cX6_isSaying 13 = .ok (.goto 4, 3) := by decide +kernel
theorem dX6_isSaying_16 : decode cX6_isSaying 16 = .ok (.iconst 0, 1) := by decide +kernel
theorem dX6_isSaying_17 : decode cX6_isSaying 17 = .ok (.ireturn, 1) := by decide +kernel
set_option maxRecDepth 20000 in
theorem ggX6_copy_X6_isSaying : GoodIn wsX6_copy wsX6_isSaying := goodIn_r _ [7, 8, 9, 10, 11, 12, 13, 14, 15, 16, 17, 18, 19, 20, 21, 22, 23, 24, 25, 26, 27, 28, 29, 30, 31, 32, 33, 34, 35, 36, 37, 38, 39, 40, 41, 42, 43, 44, 45, 46, 47, 48, 49, 50, 51] (by decide +kernel) (by decide +kernel)
set_option maxRecDepth 20000 in
theorem gX6_copy_X6_isSaying : GoodIn wsX6_copy (wsV RX6 181 RX6 yX6_isSaying wsX6_isSaying) := goodIn_app (goodIn_of _ (by decide +kernel)) ggX6_copy_X6_isSaying
theorem dX6_copy_0 : decode cX6_copy 0 = .ok (.aload_n 0, 1) := by decide +kernel
theorem dX6_copy_1 : decode cX6_copy 1 = .ok (.iconst 0, 1) := by decide +kernel
theorem dX6_copy_2 : decode cX6_copy 2 = .ok (.putfield 98, 3) := by decide +kernel
theorem dX6_copy_5 : decode cX6_copy 5 = .ok (.aload_n 0, 1) := by decide +kernel
theorem dX6_copy_6 : decode cX6_copy 6 = .ok (.iload_n 1, 1) := by decide +kernel
theorem dX6_copy_7 : decode cX6_copy 7 = .ok (.invokevirtual 181, 3) := by decide +kernel
theorem dX6_copy_10 : decode cX6_copy 10 = .ok (.ifCond .eq 22, 3) := by decide +kernel
theorem dX6_copy_13 : decode cX6_copy 13 = .ok (.iload_n 2, 1) := by decide +kernel
theorem dX6_copy_14 : decode cX6_copy 14 = .ok (.ifCond .lt 18, 3) := by decide +kernel
theorem dX6_copy_17 : decode cX6_copy 17 = .ok (.iload_n 2, 1) := by decide +kernel
theorem dX6_copy_18 : decode cX6_copy 18 = .ok (.iload_n 1, 1) := by decide +kernel
theorem dX6_copy_19 : decode cX6_copy 19 = .ok (.if_icmp .ge 13, 3) := by decide +kernel
theorem dX6_copy_22 : decode cX6_copy 22 = .ok (.aload_n 0, 1) := by decide +kernel
theorem dX6_copy_23 : decode cX6_copy 23 = .ok (.getfield 37, 3) := by decide +kernel
theorem dX6_copy_26 : decode cX6_copy 26 = .ok (.iload_n 1, 1) := by decide +kernel
theorem dX6_copy_27 : decode cX6_copy 27 = .ok (.iaload, 1) := by decide +kernel
theorem dX6_copy_28 : decode cX6_copy 28 = .ok (.iconst (-1), 1) := by decide +kernel
theorem dX6_copy_29 : decode cX6_copy 29 = .ok (.if_icmp .eq 5, 3) := by decide +kernel
theorem dX6_copy_32 : decode cX6_copy 32 = .ok (.iconst 0, 1) := by decide +kernel
theorem dX6_copy_33 : decode cX6_copy 33 = .ok (.ireturn, 1) := by decide +kernel
theorem dX6_copy_34 : decode cX6_copy 34 = .ok (.aload_n 0, 1) := by decide +kernel
theorem dX6_copy_35 : decode cX6_copy 35 = .ok (.getfield 37, 3) := by decide +kernel
theorem dX6_copy_38 : decode cX6_copy 38 = .ok (.iload_n 1, 1) := by decide +kernel
theorem dX6_copy_39 : decode cX6_copy 39 = .ok (.iload_n 2, 1) := by decide +kernel
theorem dX6_copy_40 : decode cX6_copy 40 = .ok (.iastore, 1) := by decide +kernel
theorem dX6_copy_41 : decode cX6_copy 41 = .ok (.iconst 1, 1) := by decide +kernel
theorem dX6_copy_42 : decode cX6_copy 42 = .ok (.ireturn, 1) := by decide +kernel
set_option maxRecDepth 20000 in
theorem ggX6_take_X6_isSaying : GoodIn wsX6_take wsX6_isSaying := goodIn_r _ [7, 8, 9, 10, 11, 12, 13, 14, 15, 16, 17, 18, 19, 20, 21, 22, 23, 24, 25, 26, 27, 28, 29, 30, 31, 32, 33, 34, 35, 36, 37, 38, 39, 40, 41, 42, 43, 44, 45, 46, 47, 48, 49, 50, 51] (by decide +kernel) (by decide +kernel)
set_option maxRecDepth 20000 in
theorem gX6_take_X6_isSaying : GoodIn wsX6_take (wsV RX6 181 RX6 yX6_isSaying wsX6_isSaying) := goodIn_app (goodIn_of _ (by decide +kernel)) ggX6_take_X6_isSaying
theorem dX6_take_0 : decode cX6_take 0 = .ok (.aload_n 0, 1) := by decide +kernel
theorem dX6_take_1 : decode cX6_take 1 = .ok (.iconst 0, 1) := by decide +kernel
theorem dX6_take_2 : decode cX6_take 2 = .ok (.putfield 98, 3) := by decide +kernel
theorem dX6_take_5 : decode cX6_take 5 = .ok (.aload_n 0, 1) := by decide +kernel
theorem dX6_take_6 : decode cX6_take 6 = .ok (.iload_n 1, 1) := by decide +kernel
theorem dX6_take_7 : decode cX6_take 7 = .ok (.invokevirtual 181, 3) := by decide +kernel
theorem dX6_take_10 : decode cX6_take 10 = .ok (.ifCond .eq 13, 3) := by decide +kernel
theorem dX6_take_13 : decode cX6_take 13 = .ok (.aload_n 0, 1) := by decide +kernel
theorem dX6_take_14 : decode cX6_take 14 = .ok (.getfield 40, 3) := by decide +kernel
theorem dX6_take_17 : decode cX6_take 17 = .ok (.iload_n 1, 1) := by decide +kernel
theorem dX6_take_18 : decode cX6_take 18 = .ok (.baload, 1) := by decide +kernel
theorem dX6_take_19 : decode cX6_take 19 = .ok (.iload_n 2, 1) := by decide +kernel
theorem dX6_take_20 : decode cX6_take 20 = .ok (.if_icmp .ne 5, 3) := by decide +kernel
theorem dX6_take_23 : decode cX6_take 23 = .ok (.iconst 0, 1) := by decide +kernel
theorem dX6_take_24 : decode cX6_take 24 = .ok (.ireturn, 1) := by decide +kernel
theorem dX6_take_25 : decode cX6_take 25 = .ok (.aload_n 0, 1) := by decide +kernel
theorem dX6_take_26 : decode cX6_take 26 = .ok (.getfield 40, 3) := by decide +kernel
theorem dX6_take_29 : decode cX6_take 29 = .ok (.iload_n 1, 1) := by decide +kernel
theorem dX6_take_30 : decode cX6_take 30 = .ok (.iload_n 2, 1) := by decide +kernel
theorem dX6_take_31 : decode cX6_take 31 = .ok (.bastore, 1) := by decide +kernel
theorem dX6_take_32 : decode cX6_take 32 = .ok (.iconst 1, 1) := by decide +kernel
theorem dX6_take_33 : decode cX6_take 33 = .ok (.ireturn, 1) := by decide +kernel
theorem dX6_rootOf_0 : decode cX6_rootOf 0 = .ok (.iload_n 1, 1) := by decide +kernel
theorem dX6_rootOf_1 : decode cX6_rootOf 1 = .ok (.istore_n 2, 1) := by decide +kernel
theorem dX6_rootOf_2 : decode cX6_rootOf 2 = .ok (.aload_n 0, 1) := by decide +kernel
theorem dX6_rootOf_3 : decode cX6_rootOf 3 = .ok (.getfield 37, 3) := by decide +kernel
theorem dX6_rootOf_6 : decode cX6_rootOf 6 = .ok (.iload_n 2, 1) := by decide +kernel
theorem dX6_rootOf_7 : decode cX6_rootOf 7 = .ok (.iaload, 1) := by decide +kernel
theorem dX6_rootOf_8 : decode cX6_rootOf 8 = .ok (.iconst (-1), 1) := by decide +kernel
theorem dX6_rootOf_9 : decode cX6_rootOf 9 = .ok (.if_icmp .eq 13, 3) := by decide +kernel
theorem dX6_rootOf_12 : decode cX6_rootOf 12 = .ok (.aload_n 0, 1) := by decide +kernel
theorem dX6_rootOf_13 : decode cX6_rootOf 13 = .ok (.getfield 37, 3) := by decide +kernel
theorem dX6_rootOf_16 : decode cX6_rootOf 16 = .ok (.iload_n 2, 1) := by decide +kernel
theorem dX6_rootOf_17 : decode cX6_rootOf 17 = .ok (.iaload, 1) := by decide +kernel
theorem dX6_rootOf_18 : decode cX6_rootOf 18 = .ok (.istore_n 2, 1) := by decide +kernel
theorem dX6_rootOf_19 : decode cX6_rootOf 19 = .ok (.goto (-17), 3) := by decide +kernel
theorem dX6_rootOf_22 : decode cX6_rootOf 22 = .ok (.iload_n 2, 1) := by decide +kernel
theorem dX6_rootOf_23 : decode cX6_rootOf 23 = .ok (.ireturn, 1) := by decide +kernel
set_option maxRecDepth 20000 in
theorem ggX6_look_X6_isSaying : GoodIn wsX6_look wsX6_isSaying := goodIn_r _ [12, 13, 18, 19, 20, 21, 22, 23, 24, 25, 26, 27, 28, 29, 30, 31, 32, 33, 34, 35, 36, 37, 38, 39, 40, 41, 42, 43, 44, 45, 46, 47, 48, 49, 50, 51, 52, 53, 54, 55, 56, 57, 58, 59, 60] (by decide +kernel) (by decide +kernel)
set_option maxRecDepth 20000 in
theorem gX6_look_X6_isSaying : GoodIn wsX6_look (wsV RX6 181 RX6 yX6_isSaying wsX6_isSaying) := goodIn_app (goodIn_of _ (by decide +kernel)) ggX6_look_X6_isSaying
set_option maxRecDepth 20000 in
theorem ggX6_look_X6_rootOf : GoodIn wsX6_look wsX6_rootOf := goodIn_r _ [17, 6, 18, 19, 20, 21, 22, 23, 24, 25, 26, 27, 28, 29, 30, 31, 32, 33, 34, 35, 36, 37, 38, 39, 40, 41, 42, 43, 44, 45, 46, 47, 48, 49, 50, 51, 52, 53, 54, 55, 56, 57, 58, 59, 60] (by decide +kernel) (by decide +kernel)
set_option maxRecDepth 20000 in
theorem gX6_look_X6_rootOf : GoodIn wsX6_look (wsV RX6 184 RX6 yX6_rootOf wsX6_rootOf) := goodIn_app (goodIn_of _ (by decide +kernel)) ggX6_look_X6_rootOf
theorem dX6_look_0 : decode cX6_look 0 = .ok (.aload_n 0, 1) := by decide +kernel
theorem dX6_look_1 : decode cX6_look 1 = .ok (.iconst 0, 1) := by decide +kernel
theorem dX6_look_2 : decode cX6_look 2 = .ok (.putfield 98, 3) := by decide +kernel
theorem dX6_look_5 : decode cX6_look 5 = .ok (.aload_n 0, 1) := by decide +kernel
theorem dX6_look_6 : decode cX6_look 6 = .ok (.iload_n 1, 1) := by decide +kernel
theorem dX6_look_7 : decode cX6_look 7 = .ok (.invokevirtual 181, 3) := by decide +kernel
theorem dX6_look_10 : decode cX6_look 10 = .ok (.ifCond .ne 5, 3) := by decide +kernel
theorem dX6_look_13 : decode cX6_look 13 = .ok (.iconst (-1), 1) := by decide +kernel
theorem dX6_look_14 : decode cX6_look 14 = .ok (.ireturn, 1) := by decide +kernel
theorem dX6_look_15 : decode cX6_look 15 = .ok (.iload_n 2, 1) := by decide +kernel
theorem dX6_look_16 : decode cX6_look 16 = .ok (.tableswitch 100 0 6 #[44, 51, 58, 65, 80, 87, 93], 44) := by decide +kernel
theorem dX6_look_60 : decode cX6_look 60 = .ok (.aload_n 0, 1) := by decide +kernel
theorem dX6_look_61 : decode cX6_look 61 = .ok (.getfield 19, 3) := by decide +kernel
theorem dX6_look_64 : decode cX6_look 64 = .ok (.iload_n 1, 1) := by decide +kernel
theorem dX6_look_65 : decode cX6_look 65 = .ok (.iaload, 1) := by decide +kernel
theorem dX6_look_66 : decode cX6_look 66 = .ok (.ireturn, 1) := by decide +kernel
theorem dX6_look_67 : decode cX6_look 67 = .ok (.aload_n 0, 1) := by decide +kernel
theorem dX6_look_68 : decode cX6_look 68 = .ok (.getfield 22, 3) := by decide +kernel
theorem dX6_look_71 : decode cX6_look 71 = .ok (.iload_n 1, 1) := by decide +kernel
theorem dX6_look_72 : decode cX6_look 72 = .ok (.iaload, 1) := by decide +kernel
theorem dX6_look_73 : decode cX6_look 73 = .ok (.ireturn, 1) := by decide +kernel
theorem dX6_look_74 : decode cX6_look 74 = .ok (.aload_n 0, 1) := by decide +kernel
theorem dX6_look_75 : decode cX6_look 75 = .ok (.getfield 34, 3) := by decide +kernel
theorem dX6_look_78 : decode cX6_look 78 = .ok (.iload_n 1, 1) := by decide +kernel
theorem dX6_look_79 : decode cX6_look 79 = .ok (.iaload, 1) := by decide +kernel
theorem dX6_look_80 : decode cX6_look 80 = .ok (.ireturn, 1) := by decide +kernel
theorem dX6_look_81 : decode cX6_look 81 = .ok (.aload_n 0, 1) := by decide +kernel
theorem dX6_look_82 : decode cX6_look 82 = .ok (.getfield 40, 3) := by decide +kernel
theorem dX6_look_85 : decode cX6_look 85 = .ok (.iload_n 1, 1) := by decide +kernel
theorem dX6_look_86 : decode cX6_look 86 = .ok (.baload, 1) := by decide +kernel
theorem dX6_look_87 : decode cX6_look 87 = .ok (.ifCond .eq 7, 3) := by decide +kernel
theorem dX6_look_90 : decode cX6_look 90 = .ok (.iconst 1, 1) := by decide +kernel
theorem dX6_look_91 : decode cX6_look 91 = .ok (.goto 4, 3) := by decide +kernel
theorem dX6_look_94 : decode cX6_look 94 = .ok (.iconst 0, 1) := by decide +kernel
theorem dX6_look_95 : decode cX6_look 95 = .ok (.ireturn, 1) := by decide +kernel
theorem dX6_look_96 : decode cX6_look 96 = .ok (.aload_n 0, 1) := by decide +kernel
theorem dX6_look_97 : decode cX6_look 97 = .ok (.getfield 37, 3) := by decide +kernel
theorem dX6_look_100 : decode cX6_look 100 = .ok (.iload_n 1, 1) := by decide +kernel
theorem dX6_look_101 : decode cX6_look 101 = .ok (.iaload, 1) := by decide +kernel
theorem dX6_look_102 : decode cX6_look 102 = .ok (.ireturn, 1) := by decide +kernel
theorem dX6_look_103 : decode cX6_look 103 = .ok (.aload_n 0, 1) := by decide +kernel
theorem dX6_look_104 : decode cX6_look 104 = .ok (.iload_n 1, 1) := by decide +kernel
theorem dX6_look_105 : decode cX6_look 105 = .ok (.invokevirtual 184, 3) := by decide +kernel
theorem dX6_look_108 : decode cX6_look 108 = .ok (.ireturn, 1) := by decide +kernel
theorem dX6_look_109 : decode cX6_look 109 = .ok (.aload_n 0, 1) := by decide +kernel
theorem dX6_look_110 : decode cX6_look 110 = .ok (.getfield 50, 3) := by decide +kernel
theorem dX6_look_113 : decode cX6_look 113 = .ok (.iload_n 1, 1) := by decide +kernel
theorem dX6_look_114 : decode cX6_look 114 = .ok (.iaload, 1) := by decide +kernel
theorem dX6_look_115 : decode cX6_look 115 = .ok (.ireturn, 1) := by decide +kernel
theorem dX6_look_116 : decode cX6_look 116 = .ok (.iconst (-1), 1) := by decide +kernel
theorem dX6_look_117 : decode cX6_look 117 = .ok (.ireturn, 1) := by decide +kernel
set_option maxRecDepth 20000 in
theorem ggX6_span_X6_isSaying : GoodIn wsX6_span wsX6_isSaying := goodIn_r _ [9, 10, 11, 12, 13, 14, 15, 16, 17, 18, 19, 20, 21, 22, 23, 24, 25, 26, 27, 28, 29, 30, 31, 32, 33, 34, 35, 36, 37, 38, 39, 40, 41, 42, 43, 44, 45, 46, 47, 48, 49, 50, 51, 52, 53] (by decide +kernel) (by decide +kernel)
set_option maxRecDepth 20000 in
theorem gX6_span_X6_isSaying : GoodIn wsX6_span (wsV RX6 181 RX6 yX6_isSaying wsX6_isSaying) := goodIn_app (goodIn_of _ (by decide +kernel)) ggX6_span_X6_isSaying
theorem dX6_span_0 : decode cX6_span 0 = .ok (.aload_n 0, 1) := by decide +kernel
theorem dX6_span_1 : decode cX6_span 1 = .ok (.iconst 0, 1) := by decide +kernel
theorem dX6_span_2 : decode cX6_span 2 = .ok (.putfield 98, 3) := by decide +kernel
theorem dX6_span_5 : decode cX6_span 5 = .ok (.aload_n 0, 1) := by decide +kernel
theorem dX6_span_6 : decode cX6_span 6 = .ok (.iload_n 1, 1) := by decide +kernel
theorem dX6_span_7 : decode cX6_span 7 = .ok (.invokevirtual 181, 3) := by decide +kernel
theorem dX6_span_10 : decode cX6_span 10 = .ok (.ifCond .eq 17, 3) := by decide +kernel
theorem dX6_span_13 : decode cX6_span 13 = .ok (.iload_n 2, 1) := by decide +kernel
theorem dX6_span_14 : decode cX6_span 14 = .ok (.ifCond .lt 13, 3) := by decide +kernel
theorem dX6_span_17 : decode cX6_span 17 = .ok (.iload_n 2, 1) := by decide +kernel
theorem dX6_span_18 : decode cX6_span 18 = .ok (.aload_n 0, 1) := by decide +kernel
theorem dX6_span_19 : decode cX6_span 19 = .ok (.getfield 50, 3) := by decide +kernel
theorem dX6_span_22 : decode cX6_span 22 = .ok (.iload_n 1, 1) := by decide +kernel
theorem dX6_span_23 : decode cX6_span 23 = .ok (.iaload, 1) := by decide +kernel
theorem dX6_span_24 : decode cX6_span 24 = .ok (.if_icmp .lt 5, 3) := by decide +kernel
theorem dX6_span_27 : decode cX6_span 27 = .ok (.iconst (-1), 1) := by decide +kernel
theorem dX6_span_28 : decode cX6_span 28 = .ok (.ireturn, 1) := by decide +kernel
theorem dX6_span_29 : decode cX6_span 29 = .ok (.iload_n 3, 1) := by decide +kernel
theorem dX6_span_30 : decode cX6_span 30 = .ok (.ifCond .eq 17, 3) := by decide +kernel
theorem dX6_span_33 : decode cX6_span 33 = .ok (.aload_n 0, 1) := by decide +kernel
theorem dX6_span_34 : decode cX6_span 34 = .ok (.getfield 47, 3) := by decide +kernel
theorem dX6_span_37 : decode cX6_span 37 = .ok (.bipush 10, 2) := by decide +kernel
theorem dX6_span_39 : decode cX6_span 39 = .ok (.iload_n 1, 1) := by decide +kernel
theorem dX6_span_40 : decode cX6_span 40 = .ok (.imul, 1) := by decide +kernel
theorem dX6_span_41 : decode cX6_span 41 = .ok (.iload_n 2, 1) := by decide +kernel
theorem dX6_span_42 : decode cX6_span 42 = .ok (.iadd, 1) := by decide +kernel
theorem dX6_span_43 : decode cX6_span 43 = .ok (.iaload, 1) := by decide +kernel
theorem dX6_span_44 : decode cX6_span 44 = .ok (.goto 14, 3) := by decide +kernel
theorem dX6_span_47 : decode cX6_span 47 = .ok (.aload_n 0, 1) := by decide +kernel
theorem dX6_span_48 : decode cX6_span 48 = .ok (.getfield 44, 3) := by decide +kernel
theorem dX6_span_51 : decode cX6_span 51 = .ok (.bipush 10, 2) := by decide +kernel
theorem dX6_span_53 : decode cX6_span 53 = .ok (.iload_n 1, 1) := by decide +kernel
theorem dX6_span_54 : decode cX6_span 54 = .ok (.imul, 1) := by decide +kernel
theorem dX6_span_55 : decode cX6_span 55 = .ok (.iload_n 2, 1) := by decide +kernel
theorem dX6_span_56 : decode cX6_span 56 = .ok (.iadd, 1) := by decide +kernel
theorem dX6_span_57 : decode cX6_span 57 = .ok (.iaload, 1) := by decide +kernel
theorem dX6_span_58 : decode cX6_span 58 = .ok (.ireturn, 1) := by decide +kernel
theorem dX6_isAsked_0 : decode cX6_isAsked 0 = .ok (.aload_n 0, 1) := by decide +kernel
theorem dX6_isAsked_1 : decode cX6_isAsked 1 = .ok (.getfield 187, 3) := by decide +kernel
theorem dX6_isAsked_4 : decode cX6_isAsked 4 = .ok (.iload_n 1, 1) := by decide +kernel
theorem dX6_isAsked_5 : decode cX6_isAsked 5 = .ok (.ishr, 1) := by decide +kernel
theorem dX6_isAsked_6 : decode cX6_isAsked 6 = .ok (.iconst 1, 1) := by decide +kernel
theorem dX6_isAsked_7 : decode cX6_isAsked 7 = .ok (.iand, 1) := by decide +kernel
theorem dX6_isAsked_8 : decode cX6_isAsked 8 = .ok (.iconst 1, 1) := by decide +kernel
theorem dX6_isAsked_9 : decode cX6_isAsked 9 = .ok (.if_icmp .ne 7, 3) := by decide +kernel
theorem dX6_isAsked_12 : decode cX6_isAsked 12 = .ok (.iconst 1, 1) := by decide +kernel
theorem dX6_isAsked_13 : decode cX6_isAsked 13 = .ok (.goto 4, 3) := by decide +kernel
theorem dX6_isAsked_16 : decode cX6_isAsked 16 = .ok (.iconst 0, 1) := by decide +kernel
theorem dX6_isAsked_17 : decode cX6_isAsked 17 = .ok (.ireturn, 1) := by decide +kernel
theorem dX6_takenAll_0 : decode cX6_takenAll 0 = .ok (.iconst 0, 1) := by decide +kernel
theorem dX6_takenAll_1 : decode cX6_takenAll 1 = .ok (.istore_n 1, 1) := by decide +kernel
theorem dX6_takenAll_2 : decode cX6_takenAll 2 = .ok (.iconst 0, 1) := by decide +kernel
theorem dX6_takenAll_3 : decode cX6_takenAll 3 = .ok (.istore_n 2, 1) := by decide +kernel
theorem dX6_takenAll_4 : decode cX6_takenAll 4 = .ok (.iload_n 2, 1) := by decide +kernel
theorem dX6_takenAll_5 : decode cX6_takenAll 5 = .ok (.aload_n 0, 1) := by decide +kernel
theorem dX6_takenAll_6 : decode cX6_takenAll 6 = .ok (.getfield 158, 3) := by decide +kernel
theorem dX6_takenAll_9 : decode cX6_takenAll 9 = .ok (.if_icmp .ge 28, 3) := by decide +kernel
theorem dX6_takenAll_12 : decode cX6_takenAll 12 = .ok (.iload_n 1, 1) := by decide +kernel
theorem dX6_takenAll_13 : decode cX6_takenAll 13 = .ok (.aload_n 0, 1) := by decide +kernel
theorem dX6_takenAll_14 : decode cX6_takenAll 14 = .ok (.getfield 40, 3) := by decide +kernel
theorem dX6_takenAll_17 : decode cX6_takenAll 17 = .ok (.iload_n 2, 1) := by decide +kernel
theorem dX6_takenAll_18 : decode cX6_takenAll 18 = .ok (.baload, 1) := by decide +kernel
theorem dX6_takenAll_19 : decode cX6_takenAll 19 = .ok (.ifCond .eq 9, 3) := by decide +kernel
theorem dX6_takenAll_22 : decode cX6_takenAll 22 = .ok (.iconst 1, 1) := by decide +kernel
theorem dX6_takenAll_23 : decode cX6_takenAll 23 = .ok (.iload_n 2, 1) := by decide +kernel
theorem dX6_takenAll_24 : decode cX6_takenAll 24 = .ok (.ishl, 1) := by decide +kernel
theorem dX6_takenAll_25 : decode cX6_takenAll 25 = .ok (.goto 4, 3) := by decide +kernel
theorem dX6_takenAll_28 : decode cX6_takenAll 28 = .ok (.iconst 0, 1) := by decide +kernel
theorem dX6_takenAll_29 : decode cX6_takenAll 29 = .ok (.ior, 1) := by decide +kernel
theorem dX6_takenAll_30 : decode cX6_takenAll 30 = .ok (.istore_n 1, 1) := by decide +kernel
theorem dX6_takenAll_31 : decode cX6_takenAll 31 = .ok (.iinc 2 1, 3) := by decide +kernel
theorem dX6_takenAll_34 : decode cX6_takenAll 34 = .ok (.goto (-30), 3) := by decide +kernel
theorem dX6_takenAll_37 : decode cX6_takenAll 37 = .ok (.iload_n 1, 1) := by decide +kernel
theorem dX6_takenAll_38 : decode cX6_takenAll 38 = .ok (.ireturn, 1) := by decide +kernel
set_option maxRecDepth 20000 in
theorem ggX6_eventSpans_X6_isAsked : GoodIn wsX6_eventSpans wsX6_isAsked := goodIn_r _ [14, 15, 37, 38, 39, 40, 41, 42, 43, 44, 45, 46, 47, 48, 49, 50, 51, 52, 53, 54, 55, 56, 57, 58, 59, 60, 61, 62, 63, 64, 65, 66, 67, 68, 69, 70, 71, 72, 73, 74, 75, 76, 77, 78, 79] (by decide +kernel) (by decide +kernel)
set_option maxRecDepth 20000 in
theorem gX6_eventSpans_X6_isAsked : GoodIn wsX6_eventSpans (wsV RX6 190 RX6 yX6_isAsked wsX6_isAsked) := goodIn_app (goodIn_of _ (by decide +kernel)) ggX6_eventSpans_X6_isAsked
set_option maxRecDepth 20000 in
theorem ggX6_eventSpans_X6_cutsDown : GoodIn wsX6_eventSpans wsX6_cutsDown := goodIn_r _ [19, 2, 20, 3, 21, 22, 23, 24, 25, 4, 26, 27, 28, 29, 30, 31, 37, 38, 39, 40, 41, 42, 43, 44, 45, 46, 47, 48, 49, 50, 51, 52, 53, 54, 55, 56, 57, 58, 59, 60, 61, 62, 63, 64, 65, 66, 67, 68, 69, 70, 71, 72, 73, 74, 75, 76, 77, 78, 79] (by decide +kernel) (by decide +kernel)
set_option maxRecDepth 20000 in
theorem gX6_eventSpans_X6_cutsDown : GoodIn wsX6_eventSpans (wsV RX6 193 RX6 yX6_cutsDown wsX6_cutsDown) := goodIn_app (goodIn_of _ (by decide +kernel)) ggX6_eventSpans_X6_cutsDown
set_option maxRecDepth 20000 in
theorem ggX6_eventSpans_X6_toFind : GoodIn wsX6_eventSpans wsX6_toFind := goodIn_r _ [35, 2, 36, 3, 4, 37, 38, 39, 40, 41, 42, 43, 44, 45, 46, 47, 48, 49, 50, 51, 52, 53, 54, 55, 56, 57, 58, 59, 60, 61, 62, 63, 64, 65, 66, 67, 68, 69, 70, 71, 72, 73, 74, 75, 76, 77, 78, 79] (by decide +kernel) (by decide +kernel)
set_option maxRecDepth 20000 in
theorem gX6_eventSpans_X6_toFind : GoodIn wsX6_eventSpans (wsV RX6 199 RX6 yX6_toFind wsX6_toFind) := goodIn_app (goodIn_of _ (by decide +kernel)) ggX6_eventSpans_X6_toFind
theorem dX6_eventSpans_0 : decode cX6_eventSpans 0 = .ok (.iconst 0, 1) := by decide +kernel
theorem dX6_eventSpans_1 : decode cX6_eventSpans 1 = .ok (.istore_n 1, 1) := by decide +kernel
theorem dX6_eventSpans_2 : decode cX6_eventSpans 2 = .ok (.iload_n 1, 1) := by decide +kernel
theorem dX6_eventSpans_3 : decode cX6_eventSpans 3 = .ok (.aload_n 0, 1) := by decide +kernel
theorem dX6_eventSpans_4 : decode cX6_eventSpans 4 = .ok (.getfield 151, 3) := by decide +kernel
theorem dX6_eventSpans_7 : decode cX6_eventSpans 7 = .ok (.if_icmp .ge 101, 3) := by decide +kernel
theorem dX6_eventSpans_10 : decode cX6_eventSpans 10 = .ok (.aload_n 0, 1) := by decide +kernel
theorem dX6_eventSpans_11 : decode cX6_eventSpans 11 = .ok (.getfield 59, 3) := by decide +kernel
theorem dX6_eventSpans_14 : decode cX6_eventSpans 14 = .ok (.iload_n 1, 1) := by decide +kernel
theorem dX6_eventSpans_15 : decode cX6_eventSpans 15 = .ok (.iconst 1, 1) := by decide +kernel
theorem dX6_eventSpans_16 : decode cX6_eventSpans 16 = .ok (.iastore, 1) := by decide +kernel
theorem dX6_eventSpans_17 : decode cX6_eventSpans 17 = .ok (.aload_n 0, 1) := by decide +kernel
theorem dX6_eventSpans_18 : decode cX6_eventSpans 18 = .ok (.getfield 53, 3) := by decide +kernel
theorem dX6_eventSpans_21 : decode cX6_eventSpans 21 = .ok (.bipush 20, 2) := by decide +kernel
theorem dX6_eventSpans_23 : decode cX6_eventSpans 23 = .ok (.iload_n 1, 1) := by decide +kernel
theorem dX6_eventSpans_24 : decode cX6_eventSpans 24 = .ok (.imul, 1) := by decide +kernel
theorem dX6_eventSpans_25 : decode cX6_eventSpans 25 = .ok (.iconst 0, 1) := by decide +kernel
theorem dX6_eventSpans_26 : decode cX6_eventSpans 26 = .ok (.iastore, 1) := by decide +kernel
theorem dX6_eventSpans_27 : decode cX6_eventSpans 27 = .ok (.aload_n 0, 1) := by decide +kernel
theorem dX6_eventSpans_28 : decode cX6_eventSpans 28 = .ok (.getfield 56, 3) := by decide +kernel
theorem dX6_eventSpans_31 : decode cX6_eventSpans 31 = .ok (.bipush 20, 2) := by decide +kernel
theorem dX6_eventSpans_33 : decode cX6_eventSpans 33 = .ok (.iload_n 1, 1) := by decide +kernel
theorem dX6_eventSpans_34 : decode cX6_eventSpans 34 = .ok (.imul, 1) := by decide +kernel
theorem dX6_eventSpans_35 : decode cX6_eventSpans 35 = .ok (.ldc 154, 2) := by decide +kernel
theorem dX6_eventSpans_37 : decode cX6_eventSpans 37 = .ok (.iastore, 1) := by decide +kernel
theorem dX6_eventSpans_38 : decode cX6_eventSpans 38 = .ok (.iconst 0, 1) := by decide +kernel
theorem dX6_eventSpans_39 : decode cX6_eventSpans 39 = .ok (.istore_n 2, 1) := by decide +kernel
theorem dX6_eventSpans_40 : decode cX6_eventSpans 40 = .ok (.iload_n 2, 1) := by decide +kernel
theorem dX6_eventSpans_41 : decode cX6_eventSpans 41 = .ok (.aload_n 0, 1) := by decide +kernel
theorem dX6_eventSpans_42 : decode cX6_eventSpans 42 = .ok (.getfield 158, 3) := by decide +kernel
theorem dX6_eventSpans_45 : decode cX6_eventSpans 45 = .ok (.if_icmp .ge 44, 3) := by decide +kernel
theorem dX6_eventSpans_48 : decode cX6_eventSpans 48 = .ok (.aload_n 0, 1) := by decide +kernel
theorem dX6_eventSpans_49 : decode cX6_eventSpans 49 = .ok (.iload_n 2, 1) := by decide +kernel
theorem dX6_eventSpans_50 : decode cX6_eventSpans 50 = .ok (.invokevirtual 190, 3) := by decide +kernel
theorem dX6_eventSpans_53 : decode cX6_eventSpans 53 = .ok (.ifCond .eq 30, 3) := by decide +kernel
theorem dX6_eventSpans_56 : decode cX6_eventSpans 56 = .ok (.aload_n 0, 1) := by decide +kernel
theorem dX6_eventSpans_57 : decode cX6_eventSpans 57 = .ok (.getfield 19, 3) := by decide +kernel
theorem dX6_eventSpans_60 : decode cX6_eventSpans 60 = .ok (.iload_n 2, 1) := by decide +kernel
theorem dX6_eventSpans_61 : decode cX6_eventSpans 61 = .ok (.iaload, 1) := by decide +kernel
theorem dX6_eventSpans_62 : decode cX6_eventSpans 62 = .ok (.iload_n 1, 1) := by decide +kernel
theorem dX6_eventSpans_63 : decode cX6_eventSpans 63 = .ok (.if_icmp .ne 20, 3) := by decide +kernel
theorem dX6_eventSpans_66 : decode cX6_eventSpans 66 = .ok (.aload_n 0, 1) := by decide +kernel
theorem dX6_eventSpans_67 : decode cX6_eventSpans 67 = .ok (.getfield 22, 3) := by decide +kernel
theorem dX6_eventSpans_70 : decode cX6_eventSpans 70 = .ok (.iload_n 2, 1) := by decide +kernel
theorem dX6_eventSpans_71 : decode cX6_eventSpans 71 = .ok (.iaload, 1) := by decide +kernel
theorem dX6_eventSpans_72 : decode cX6_eventSpans 72 = .ok (.bipush 6, 2) := by decide +kernel
theorem dX6_eventSpans_74 : decode cX6_eventSpans 74 = .ok (.if_icmp .ge 9, 3) := by decide +kernel
theorem dX6_eventSpans_77 : decode cX6_eventSpans 77 = .ok (.aload_n 0, 1) := by decide +kernel
theorem dX6_eventSpans_78 : decode cX6_eventSpans 78 = .ok (.iload_n 1, 1) := by decide +kernel
theorem dX6_eventSpans_79 : decode cX6_eventSpans 79 = .ok (.iload_n 2, 1) := by decide +kernel
theorem dX6_eventSpans_80 : decode cX6_eventSpans 80 = .ok (.invokevirtual 193, 3) := by decide +kernel
theorem dX6_eventSpans_83 : decode cX6_eventSpans 83 = .ok (.iinc 2 1, 3) := by decide +kernel
theorem dX6_eventSpans_86 : decode cX6_eventSpans 86 = .ok (.goto (-46), 3) := by decide +kernel
theorem dX6_eventSpans_89 : decode cX6_eventSpans 89 = .ok (.iload_n 1, 1) := by decide +kernel
theorem dX6_eventSpans_90 : decode cX6_eventSpans 90 = .ok (.aload_n 0, 1) := by decide +kernel
theorem dX6_eventSpans_91 : decode cX6_eventSpans 91 = .ok (.getfield 196, 3) := by decide +kernel
theorem dX6_eventSpans_94 : decode cX6_eventSpans 94 = .ok (.if_icmp .ne 8, 3) := by decide +kernel
theorem dX6_eventSpans_97 : decode cX6_eventSpans 97 = .ok (.aload_n 0, 1) := by decide +kernel
theorem dX6_eventSpans_98 : decode cX6_eventSpans 98 = .ok (.iload_n 1, 1) := by decide +kernel
theorem dX6_eventSpans_99 : decode cX6_eventSpans 99 = .ok (.invokevirtual 199, 3) := by decide +kernel
theorem dX6_eventSpans_102 : decode cX6_eventSpans 102 = .ok (.iinc 1 1, 3) := by decide +kernel
theorem dX6_eventSpans_105 : decode cX6_eventSpans 105 = .ok (.goto (-103), 3) := by decide +kernel
theorem dX6_eventSpans_108 : decode cX6_eventSpans 108 = .ok (.return_, 1) := by decide +kernel
theorem dX6_cutsDown_0 : decode cX6_cutsDown 0 = .ok (.iconst 0, 1) := by decide +kernel
theorem dX6_cutsDown_1 : decode cX6_cutsDown 1 = .ok (.istore_n 3, 1) := by decide +kernel
theorem dX6_cutsDown_2 : decode cX6_cutsDown 2 = .ok (.iconst 0, 1) := by decide +kernel
theorem dX6_cutsDown_3 : decode cX6_cutsDown 3 = .ok (.istore 4, 2) := by decide +kernel
theorem dX6_cutsDown_5 : decode cX6_cutsDown 5 = .ok (.iload 4, 2) := by decide +kernel
theorem dX6_cutsDown_7 : decode cX6_cutsDown 7 = .ok (.aload_n 0, 1) := by decide +kernel
theorem dX6_cutsDown_8 : decode cX6_cutsDown 8 = .ok (.getfield 59, 3) := by decide +kernel
theorem dX6_cutsDown_11 : decode cX6_cutsDown 11 = .ok (.iload_n 1, 1) := by decide +kernel
theorem dX6_cutsDown_12 : decode cX6_cutsDown 12 = .ok (.iaload, 1) := by decide +kernel
theorem dX6_cutsDown_13 : decode cX6_cutsDown 13 = .ok (.if_icmp .ge 116, 3) := by decide +kernel
theorem dX6_cutsDown_16 : decode cX6_cutsDown 16 = .ok (.iconst 0, 1) := by decide +kernel
theorem dX6_cutsDown_17 : decode cX6_cutsDown 17 = .ok (.istore 5, 2) := by decide +kernel
theorem dX6_cutsDown_19 : decode cX6_cutsDown 19 = .ok (.iload 5, 2) := by decide +kernel
theorem dX6_cutsDown_21 : decode cX6_cutsDown 21 = .ok (.aload_n 0, 1) := by decide +kernel
theorem dX6_cutsDown_22 : decode cX6_cutsDown 22 = .ok (.getfield 50, 3) := by decide +kernel
theorem dX6_cutsDown_25 : decode cX6_cutsDown 25 = .ok (.iload_n 2, 1) := by decide +kernel
theorem dX6_cutsDown_26 : decode cX6_cutsDown 26 = .ok (.iaload, 1) := by decide +kernel
theorem dX6_cutsDown_27 : decode cX6_cutsDown 27 = .ok (.if_icmp .ge 96, 3) := by decide +kernel
theorem dX6_cutsDown_30 : decode cX6_cutsDown 30 = .ok (.aload_n 0, 1) := by decide +kernel
theorem dX6_cutsDown_31 : decode cX6_cutsDown 31 = .ok (.getfield 53, 3) := by decide +kernel
theorem dX6_cutsDown_34 : decode cX6_cutsDown 34 = .ok (.bipush 20, 2) := by decide +kernel
theorem dX6_cutsDown_36 : decode cX6_cutsDown 36 = .ok (.iload_n 1, 1) := by decide +kernel
theorem dX6_cutsDown_37 : decode cX6_cutsDown 37 = .ok (.imul, 1) := by decide +kernel
theorem dX6_cutsDown_38 : decode cX6_cutsDown 38 = .ok (.iload 4, 2) := by decide +kernel
theorem dX6_cutsDown_40 : decode cX6_cutsDown 40 = .ok (.iadd, 1) := by decide +kernel
theorem dX6_cutsDown_41 : decode cX6_cutsDown 41 = .ok (.iaload, 1) := by decide +kernel
theorem dX6_cutsDown_42 : decode cX6_cutsDown 42 = .ok (.aload_n 0, 1) := by decide +kernel
theorem dX6_cutsDown_43 : decode cX6_cutsDown 43 = .ok (.getfield 44, 3) := by decide +kernel
theorem dX6_cutsDown_46 : decode cX6_cutsDown 46 = .ok (.bipush 10, 2) := by decide +kernel
theorem dX6_cutsDown_48 : decode cX6_cutsDown 48 = .ok (.iload_n 2, 1) := by decide +kernel
theorem dX6_cutsDown_49 : decode cX6_cutsDown 49 = .ok (.imul, 1) := by decide +kernel
theorem dX6_cutsDown_50 : decode cX6_cutsDown 50 = .ok (.iload 5, 2) := by decide +kernel
theorem dX6_cutsDown_52 : decode cX6_cutsDown 52 = .ok (.iadd, 1) := by decide +kernel
theorem dX6_cutsDown_53 : decode cX6_cutsDown 53 = .ok (.iaload, 1) := by decide +kernel
theorem dX6_cutsDown_54 : decode cX6_cutsDown 54 = .ok (.invokestatic 128, 3) := by decide +kernel
theorem dX6_cutsDown_57 : decode cX6_cutsDown 57 = .ok (.istore 6, 2) := by decide +kernel
theorem dX6_cutsDown_59 : decode cX6_cutsDown 59 = .ok (.aload_n 0, 1) := by decide +kernel
theorem dX6_cutsDown_60 : decode cX6_cutsDown 60 = .ok (.getfield 56, 3) := by decide +kernel
theorem dX6_cutsDown_63 : decode cX6_cutsDown 63 = .ok (.bipush 20, 2) := by decide +kernel
theorem dX6_cutsDown_65 : decode cX6_cutsDown 65 = .ok (.iload_n 1, 1) := by decide +kernel
theorem dX6_cutsDown_66 : decode cX6_cutsDown 66 = .ok (.imul, 1) := by decide +kernel
theorem dX6_cutsDown_67 : decode cX6_cutsDown 67 = .ok (.iload 4, 2) := by decide +kernel
theorem dX6_cutsDown_69 : decode cX6_cutsDown 69 = .ok (.iadd, 1) := by decide +kernel
theorem dX6_cutsDown_70 : decode cX6_cutsDown 70 = .ok (.iaload, 1) := by decide +kernel
theorem dX6_cutsDown_71 : decode cX6_cutsDown 71 = .ok (.aload_n 0, 1) := by decide +kernel
theorem dX6_cutsDown_72 : decode cX6_cutsDown 72 = .ok (.getfield 47, 3) := by decide +kernel
theorem dX6_cutsDown_75 : decode cX6_cutsDown 75 = .ok (.bipush 10, 2) := by decide +kernel
theorem dX6_cutsDown_77 : decode cX6_cutsDown 77 = .ok (.iload_n 2, 1) := by decide +kernel
theorem dX6_cutsDown_78 : decode cX6_cutsDown 78 = .ok (.imul, 1) := by decide +kernel
theorem dX6_cutsDown_79 : decode cX6_cutsDown 79 = .ok (.iload 5, 2) := by decide +kernel
theorem dX6_cutsDown_81 : decode cX6_cutsDown 81 = .ok (.iadd, 1) := by decide +kernel
theorem dX6_cutsDown_82 : decode cX6_cutsDown 82 = .ok (.iaload, 1) := by decide +kernel
theorem dX6_cutsDown_83 : decode cX6_cutsDown 83 = .ok (.invokestatic 155, 3) := by decide +kernel
theorem dX6_cutsDown_86 : decode cX6_cutsDown 86 = .ok (.istore 7, 2) := by decide +kernel
theorem dX6_cutsDown_88 : decode cX6_cutsDown 88 = .ok (.iload 6, 2) := by decide +kernel
theorem dX6_cutsDown_90 : decode cX6_cutsDown 90 = .ok (.iload 7, 2) := by decide +kernel
theorem dX6_cutsDown_92 : decode cX6_cutsDown 92 = .ok (.if_icmp .le 6, 3) := by decide +kernel
theorem dX6_cutsDown_95 : decode cX6_cutsDown 95 = .ok (.goto 22, 3) := by decide +kernel
theorem dX6_cutsDown_98 : decode cX6_cutsDown 98 = .ok (.aload_n 0, 1) := by decide +kernel
theorem dX6_cutsDown_99 : decode cX6_cutsDown 99 = .ok (.getfield 62, 3) := by decide +kernel
theorem dX6_cutsDown_102 : decode cX6_cutsDown 102 = .ok (.iload_n 3, 1) := by decide +kernel
theorem dX6_cutsDown_103 : decode cX6_cutsDown 103 = .ok (.iload 6, 2) := by decide +kernel
theorem dX6_cutsDown_105 : decode cX6_cutsDown 105 = .ok (.iastore, 1) := by decide +kernel
theorem dX6_cutsDown_106 : decode cX6_cutsDown 106 = .ok (.aload_n 0, 1) := by decide +kernel
theorem dX6_cutsDown_107 : decode cX6_cutsDown 107 = .ok (.getfield 65, 3) := by decide +kernel
theorem dX6_cutsDown_110 : decode cX6_cutsDown 110 = .ok (.iload_n 3, 1) := by decide +kernel
theorem dX6_cutsDown_111 : decode cX6_cutsDown 111 = .ok (.iload 7, 2) := by decide +kernel
theorem dX6_cutsDown_113 : decode cX6_cutsDown 113 = .ok (.iastore, 1) := by decide +kernel
theorem dX6_cutsDown_114 : decode cX6_cutsDown 114 = .ok (.iinc 3 1, 3) := by decide +kernel
theorem dX6_cutsDown_117 : decode cX6_cutsDown 117 = .ok (.iinc 5 1, 3) := by decide +kernel
theorem dX6_cutsDown_120 : decode cX6_cutsDown 120 = .ok (.goto (-101), 3) := by decide +kernel
theorem dX6_cutsDown_123 : decode cX6_cutsDown 123 = .ok (.iinc 4 1, 3) := by decide +kernel
theorem dX6_cutsDown_126 : decode cX6_cutsDown 126 = .ok (.goto (-121), 3) := by decide +kernel
theorem dX6_cutsDown_129 : decode cX6_cutsDown 129 = .ok (.aload_n 0, 1) := by decide +kernel
theorem dX6_cutsDown_130 : decode cX6_cutsDown 130 = .ok (.getfield 59, 3) := by decide +kernel
theorem dX6_cutsDown_133 : decode cX6_cutsDown 133 = .ok (.iload_n 1, 1) := by decide +kernel
theorem dX6_cutsDown_134 : decode cX6_cutsDown 134 = .ok (.iload_n 3, 1) := by decide +kernel
theorem dX6_cutsDown_135 : decode cX6_cutsDown 135 = .ok (.iastore, 1) := by decide +kernel
theorem dX6_cutsDown_136 : decode cX6_cutsDown 136 = .ok (.iconst 0, 1) := by decide +kernel
theorem dX6_cutsDown_137 : decode cX6_cutsDown 137 = .ok (.istore 4, 2) := by decide +kernel
theorem dX6_cutsDown_139 : decode cX6_cutsDown 139 = .ok (.iload 4, 2) := by decide +kernel
theorem dX6_cutsDown_141 : decode cX6_cutsDown 141 = .ok (.iload_n 3, 1) := by decide +kernel
theorem dX6_cutsDown_142 : decode cX6_cutsDown 142 = .ok (.if_icmp .ge 47, 3) := by decide +kernel
theorem dX6_cutsDown_145 : decode cX6_cutsDown 145 = .ok (.aload_n 0, 1) := by decide +kernel
theorem dX6_cutsDown_146 : decode cX6_cutsDown 146 = .ok (.getfield 53, 3) := by decide +kernel
theorem dX6_cutsDown_149 : decode cX6_cutsDown 149 = .ok (.bipush 20, 2) := by decide +kernel
theorem dX6_cutsDown_151 : decode cX6_cutsDown 151 = .ok (.iload_n 1, 1) := by decide +kernel
theorem dX6_cutsDown_152 : decode cX6_cutsDown 152 = .ok (.imul, 1) := by decide +kernel
theorem dX6_cutsDown_153 : decode cX6_cutsDown 153 = .ok (.iload 4, 2) := by decide +kernel
theorem dX6_cutsDown_155 : decode cX6_cutsDown 155 = .ok (.iadd, 1) := by decide +kernel
theorem dX6_cutsDown_156 : decode cX6_cutsDown 156 = .ok (.aload_n 0, 1) := by decide +kernel
theorem dX6_cutsDown_157 : decode cX6_cutsDown 157 = .ok (.getfield 62, 3) := by decide +kernel
theorem dX6_cutsDown_160 : decode cX6_cutsDown 160 = .ok (.iload 4, 2) := by decide +kernel
theorem dX6_cutsDown_162 : decode cX6_cutsDown 162 = .ok (.iaload, 1) := by decide +kernel
theorem dX6_cutsDown_163 : decode cX6_cutsDown 163 = .ok (.iastore, 1) := by decide +kernel
theorem dX6_cutsDown_164 : decode cX6_cutsDown 164 = .ok (.aload_n 0, 1) := by decide +kernel
theorem dX6_cutsDown_165 : decode cX6_cutsDown 165 = .ok (.getfield 56, 3) := by decide +kernel
theorem dX6_cutsDown_168 : decode cX6_cutsDown 168 = .ok (.bipush 20, 2) := by decide +kernel
theorem dX6_cutsDown_170 : decode cX6_cutsDown 170 = .ok (.iload_n 1, 1) := by decide +kernel
theorem dX6_cutsDown_171 : decode cX6_cutsDown 171 = .ok (.imul, 1) := by decide +kernel
theorem dX6_cutsDown_172 : decode cX6_cutsDown 172 = .ok (.iload 4, 2) := by decide +kernel
theorem dX6_cutsDown_174 : decode cX6_cutsDown 174 = .ok (.iadd, 1) := by decide +kernel
theorem dX6_cutsDown_175 : decode cX6_cutsDown 175 = .ok (.aload_n 0, 1) := by decide +kernel
theorem dX6_cutsDown_176 : decode cX6_cutsDown 176 = .ok (.getfield 65, 3) := by decide +kernel
theorem dX6_cutsDown_179 : decode cX6_cutsDown 179 = .ok (.iload 4, 2) := by decide +kernel
theorem dX6_cutsDown_181 : decode cX6_cutsDown 181 = .ok (.iaload, 1) := by decide +kernel
theorem dX6_cutsDown_182 : decode cX6_cutsDown 182 = .ok (.iastore, 1) := by decide +kernel
theorem dX6_cutsDown_183 : decode cX6_cutsDown 183 = .ok (.iinc 4 1, 3) := by decide +kernel
theorem dX6_cutsDown_186 : decode cX6_cutsDown 186 = .ok (.goto (-47), 3) := by decide +kernel
theorem dX6_cutsDown_189 : decode cX6_cutsDown 189 = .ok (.return_, 1) := by decide +kernel
theorem dX6_toFind_0 : decode cX6_toFind 0 = .ok (.iconst 0, 1) := by decide +kernel
theorem dX6_toFind_1 : decode cX6_toFind 1 = .ok (.istore_n 2, 1) := by decide +kernel
theorem dX6_toFind_2 : decode cX6_toFind 2 = .ok (.iconst 0, 1) := by decide +kernel
theorem dX6_toFind_3 : decode cX6_toFind 3 = .ok (.istore_n 3, 1) := by decide +kernel
theorem dX6_toFind_4 : decode cX6_toFind 4 = .ok (.iload_n 3, 1) := by decide +kernel
theorem dX6_toFind_5 : decode cX6_toFind 5 = .ok (.aload_n 0, 1) := by decide +kernel
theorem dX6_toFind_6 : decode cX6_toFind 6 = .ok (.getfield 59, 3) := by decide +kernel
theorem dX6_toFind_9 : decode cX6_toFind 9 = .ok (.iload_n 1, 1) := by decide +kernel
theorem dX6_toFind_10 : decode cX6_toFind 10 = .ok (.iaload, 1) := by decide +kernel
theorem dX6_toFind_11 : decode cX6_toFind 11 = .ok (.if_icmp .ge 55, 3) := by decide +kernel
theorem dX6_toFind_14 : decode cX6_toFind 14 = .ok (.iload_n 2, 1) := by decide +kernel
theorem dX6_toFind_15 : decode cX6_toFind 15 = .ok (.ifCond .ne 39, 3) := by decide +kernel
theorem dX6_toFind_18 : decode cX6_toFind 18 = .ok (.aload_n 0, 1) := by decide +kernel
theorem dX6_toFind_19 : decode cX6_toFind 19 = .ok (.getfield 203, 3) := by decide +kernel
theorem dX6_toFind_22 : decode cX6_toFind 22 = .ok (.aload_n 0, 1) := by decide +kernel
theorem dX6_toFind_23 : decode cX6_toFind 23 = .ok (.getfield 53, 3) := by decide +kernel
theorem dX6_toFind_26 : decode cX6_toFind 26 = .ok (.bipush 20, 2) := by decide +kernel
theorem dX6_toFind_28 : decode cX6_toFind 28 = .ok (.iload_n 1, 1) := by decide +kernel
theorem dX6_toFind_29 : decode cX6_toFind 29 = .ok (.imul, 1) := by decide +kernel
theorem dX6_toFind_30 : decode cX6_toFind 30 = .ok (.iload_n 3, 1) := by decide +kernel
theorem dX6_toFind_31 : decode cX6_toFind 31 = .ok (.iadd, 1) := by decide +kernel
theorem dX6_toFind_32 : decode cX6_toFind 32 = .ok (.iaload, 1) := by decide +kernel
theorem dX6_toFind_33 : decode cX6_toFind 33 = .ok (.if_icmp .lt 25, 3) := by decide +kernel
theorem dX6_toFind_36 : decode cX6_toFind 36 = .ok (.aload_n 0, 1) := by decide +kernel
theorem dX6_toFind_37 : decode cX6_toFind 37 = .ok (.getfield 203, 3) := by decide +kernel
theorem dX6_toFind_40 : decode cX6_toFind 40 = .ok (.aload_n 0, 1) := by decide +kernel
theorem dX6_toFind_41 : decode cX6_toFind 41 = .ok (.getfield 56, 3) := by decide +kernel
theorem dX6_toFind_44 : decode cX6_toFind 44 = .ok (.bipush 20, 2) := by decide +kernel
theorem dX6_toFind_46 : decode cX6_toFind 46 = .ok (.iload_n 1, 1) := by decide +kernel
theorem dX6_toFind_47 : decode cX6_toFind 47 = .ok (.imul, 1) := by decide +kernel
theorem dX6_toFind_48 : decode cX6_toFind 48 = .ok (.iload_n 3, 1) := by decide +kernel
theorem dX6_toFind_49 : decode cX6_toFind 49 = .ok (.iadd, 1) := by decide +kernel
theorem dX6_toFind_50 : decode cX6_toFind 50 = .ok (.iaload, 1) := by decide +kernel
theorem dX6_toFind_51 : decode cX6_toFind 51 = .ok (.if_icmp .gt 7, 3) := by decide +kernel
theorem dX6_toFind_54 : decode cX6_toFind 54 = .ok (.iconst 1, 1) := by decide +kernel
theorem dX6_toFind_55 : decode cX6_toFind 55 = .ok (.goto 4, 3) := by decide +kernel
theorem dX6_toFind_58 : decode cX6_toFind 58 = .ok (.iconst 0, 1) := by decide +kernel
theorem dX6_toFind_59 : decode cX6_toFind 59 = .ok (.istore_n 2, 1) := by decide +kernel
theorem dX6_toFind_60 : decode cX6_toFind 60 = .ok (.iinc 3 1, 3) := by decide +kernel
theorem dX6_toFind_63 : decode cX6_toFind 63 = .ok (.goto (-59), 3) := by decide +kernel
theorem dX6_toFind_66 : decode cX6_toFind 66 = .ok (.aload_n 0, 1) := by decide +kernel
theorem dX6_toFind_67 : decode cX6_toFind 67 = .ok (.getfield 59, 3) := by decide +kernel
theorem dX6_toFind_70 : decode cX6_toFind 70 = .ok (.iload_n 1, 1) := by decide +kernel
theorem dX6_toFind_71 : decode cX6_toFind 71 = .ok (.iload_n 2, 1) := by decide +kernel
theorem dX6_toFind_72 : decode cX6_toFind 72 = .ok (.ifCond .eq 7, 3) := by decide +kernel
theorem dX6_toFind_75 : decode cX6_toFind 75 = .ok (.iconst 1, 1) := by decide +kernel
theorem dX6_toFind_76 : decode cX6_toFind 76 = .ok (.goto 4, 3) := by decide +kernel
theorem dX6_toFind_79 : decode cX6_toFind 79 = .ok (.iconst 0, 1) := by decide +kernel
theorem dX6_toFind_80 : decode cX6_toFind 80 = .ok (.iastore, 1) := by decide +kernel
theorem dX6_toFind_81 : decode cX6_toFind 81 = .ok (.aload_n 0, 1) := by decide +kernel
theorem dX6_toFind_82 : decode cX6_toFind 82 = .ok (.getfield 53, 3) := by decide +kernel
theorem dX6_toFind_85 : decode cX6_toFind 85 = .ok (.bipush 20, 2) := by decide +kernel
theorem dX6_toFind_87 : decode cX6_toFind 87 = .ok (.iload_n 1, 1) := by decide +kernel
theorem dX6_toFind_88 : decode cX6_toFind 88 = .ok (.imul, 1) := by decide +kernel
theorem dX6_toFind_89 : decode cX6_toFind 89 = .ok (.aload_n 0, 1) := by decide +kernel
theorem dX6_toFind_90 : decode cX6_toFind 90 = .ok (.getfield 203, 3) := by decide +kernel
theorem dX6_toFind_93 : decode cX6_toFind 93 = .ok (.iastore, 1) := by decide +kernel
theorem dX6_toFind_94 : decode cX6_toFind 94 = .ok (.aload_n 0, 1) := by decide +kernel
theorem dX6_toFind_95 : decode cX6_toFind 95 = .ok (.getfield 56, 3) := by decide +kernel
theorem dX6_toFind_98 : decode cX6_toFind 98 = .ok (.bipush 20, 2) := by decide +kernel
theorem dX6_toFind_100 : decode cX6_toFind 100 = .ok (.iload_n 1, 1) := by decide +kernel
theorem dX6_toFind_101 : decode cX6_toFind 101 = .ok (.imul, 1) := by decide +kernel
theorem dX6_toFind_102 : decode cX6_toFind 102 = .ok (.aload_n 0, 1) := by decide +kernel
theorem dX6_toFind_103 : decode cX6_toFind 103 = .ok (.getfield 203, 3) := by decide +kernel
theorem dX6_toFind_106 : decode cX6_toFind 106 = .ok (.iastore, 1) := by decide +kernel
theorem dX6_toFind_107 : decode cX6_toFind 107 = .ok (.return_, 1) := by decide +kernel
end
section
set_option maxRecDepth 20000 in
theorem ggX6_canBe_X6_isAsked : GoodIn wsX6_canBe wsX6_isAsked := goodIn_r _ [18, 19, 31, 32, 33, 34, 35, 36, 37, 38, 39, 40, 41, 42, 43, 44, 45, 46, 47, 48, 49, 50, 51, 52, 53, 54, 55, 56, 57, 58, 59, 60, 61, 62, 63, 64, 65, 66, 67, 68, 69, 70, 71, 72, 73] (by decide +kernel) (by decide +kernel)
set_option maxRecDepth 20000 in
theorem gX6_canBe_X6_isAsked : GoodIn wsX6_canBe (wsV RX6 190 RX6 yX6_isAsked wsX6_isAsked) := goodIn_app (goodIn_of _ (by decide +kernel)) ggX6_canBe_X6_isAsked
set_option maxRecDepth 20000 in
theorem ggX6_canBe_X6_narrows : GoodIn wsX6_canBe wsX6_narrows := goodIn_r _ [23, 2, 5, 24, 25, 26, 27, 28, 29, 30, 31, 32, 33, 34, 35, 36, 37, 38, 39, 40, 41, 42, 43, 44, 45, 46, 47, 48, 49, 50, 51, 52, 53, 54, 55, 56, 57, 58, 59, 60, 61, 62, 63, 64, 65, 66, 67, 68, 69, 70, 71, 72, 73] (by decide +kernel) (by decide +kernel)
set_option maxRecDepth 20000 in
theorem gX6_canBe_X6_narrows : GoodIn wsX6_canBe (wsV RX6 206 RX6 yX6_narrows wsX6_narrows) := goodIn_app (goodIn_of _ (by decide +kernel)) ggX6_canBe_X6_narrows
theorem dX6_canBe_0 : decode cX6_canBe 0 = .ok (.iconst 0, 1) := by decide +kernel
theorem dX6_canBe_1 : decode cX6_canBe 1 = .ok (.istore_n 2, 1) := by decide +kernel
theorem dX6_canBe_2 : decode cX6_canBe 2 = .ok (.iload_n 2, 1) := by decide +kernel
theorem dX6_canBe_3 : decode cX6_canBe 3 = .ok (.aload_n 0, 1) := by decide +kernel
theorem dX6_canBe_4 : decode cX6_canBe 4 = .ok (.getfield 151, 3) := by decide +kernel
theorem dX6_canBe_7 : decode cX6_canBe 7 = .ok (.if_icmp .ge 72, 3) := by decide +kernel
theorem dX6_canBe_10 : decode cX6_canBe 10 = .ok (.aload_n 0, 1) := by decide +kernel
theorem dX6_canBe_11 : decode cX6_canBe 11 = .ok (.getfield 68, 3) := by decide +kernel
theorem dX6_canBe_14 : decode cX6_canBe 14 = .ok (.iload_n 2, 1) := by decide +kernel
theorem dX6_canBe_15 : decode cX6_canBe 15 = .ok (.iload_n 2, 1) := by decide +kernel
theorem dX6_canBe_16 : decode cX6_canBe 16 = .ok (.iload_n 1, 1) := by decide +kernel
theorem dX6_canBe_17 : decode cX6_canBe 17 = .ok (.if_icmp .ge 22, 3) := by decide +kernel
theorem dX6_canBe_20 : decode cX6_canBe 20 = .ok (.aload_n 0, 1) := by decide +kernel
theorem dX6_canBe_21 : decode cX6_canBe 21 = .ok (.getfield 53, 3) := by decide +kernel
theorem dX6_canBe_24 : decode cX6_canBe 24 = .ok (.bipush 20, 2) := by decide +kernel
theorem dX6_canBe_26 : decode cX6_canBe 26 = .ok (.iload_n 2, 1) := by decide +kernel
theorem dX6_canBe_27 : decode cX6_canBe 27 = .ok (.imul, 1) := by decide +kernel
theorem dX6_canBe_28 : decode cX6_canBe 28 = .ok (.aload_n 0, 1) := by decide +kernel
theorem dX6_canBe_29 : decode cX6_canBe 29 = .ok (.getfield 74, 3) := by decide +kernel
theorem dX6_canBe_32 : decode cX6_canBe 32 = .ok (.iload_n 2, 1) := by decide +kernel
theorem dX6_canBe_33 : decode cX6_canBe 33 = .ok (.iaload, 1) := by decide +kernel
theorem dX6_canBe_34 : decode cX6_canBe 34 = .ok (.iadd, 1) := by decide +kernel
theorem dX6_canBe_35 : decode cX6_canBe 35 = .ok (.iaload, 1) := by decide +kernel
theorem dX6_canBe_36 : decode cX6_canBe 36 = .ok (.goto 4, 3) := by decide +kernel
theorem dX6_canBe_39 : decode cX6_canBe 39 = .ok (.iconst 0, 1) := by decide +kernel
theorem dX6_canBe_40 : decode cX6_canBe 40 = .ok (.iastore, 1) := by decide +kernel
theorem dX6_canBe_41 : decode cX6_canBe 41 = .ok (.aload_n 0, 1) := by decide +kernel
theorem dX6_canBe_42 : decode cX6_canBe 42 = .ok (.getfield 71, 3) := by decide +kernel
theorem dX6_canBe_45 : decode cX6_canBe 45 = .ok (.iload_n 2, 1) := by decide +kernel
theorem dX6_canBe_46 : decode cX6_canBe 46 = .ok (.iload_n 2, 1) := by decide +kernel
theorem dX6_canBe_47 : decode cX6_canBe 47 = .ok (.iload_n 1, 1) := by decide +kernel
theorem dX6_canBe_48 : decode cX6_canBe 48 = .ok (.if_icmp .ge 22, 3) := by decide +kernel
theorem dX6_canBe_51 : decode cX6_canBe 51 = .ok (.aload_n 0, 1) := by decide +kernel
theorem dX6_canBe_52 : decode cX6_canBe 52 = .ok (.getfield 56, 3) := by decide +kernel
theorem dX6_canBe_55 : decode cX6_canBe 55 = .ok (.bipush 20, 2) := by decide +kernel
theorem dX6_canBe_57 : decode cX6_canBe 57 = .ok (.iload_n 2, 1) := by decide +kernel
theorem dX6_canBe_58 : decode cX6_canBe 58 = .ok (.imul, 1) := by decide +kernel
theorem dX6_canBe_59 : decode cX6_canBe 59 = .ok (.aload_n 0, 1) := by decide +kernel
theorem dX6_canBe_60 : decode cX6_canBe 60 = .ok (.getfield 74, 3) := by decide +kernel
theorem dX6_canBe_63 : decode cX6_canBe 63 = .ok (.iload_n 2, 1) := by decide +kernel
theorem dX6_canBe_64 : decode cX6_canBe 64 = .ok (.iaload, 1) := by decide +kernel
theorem dX6_canBe_65 : decode cX6_canBe 65 = .ok (.iadd, 1) := by decide +kernel
theorem dX6_canBe_66 : decode cX6_canBe 66 = .ok (.iaload, 1) := by decide +kernel
theorem dX6_canBe_67 : decode cX6_canBe 67 = .ok (.goto 5, 3) := by decide +kernel
theorem dX6_canBe_70 : decode cX6_canBe 70 = .ok (.ldc 154, 2) := by decide +kernel
theorem dX6_canBe_72 : decode cX6_canBe 72 = .ok (.iastore, 1) := by decide +kernel
theorem dX6_canBe_73 : decode cX6_canBe 73 = .ok (.iinc 2 1, 3) := by decide +kernel
theorem dX6_canBe_76 : decode cX6_canBe 76 = .ok (.goto (-74), 3) := by decide +kernel
theorem dX6_canBe_79 : decode cX6_canBe 79 = .ok (.iconst 1, 1) := by decide +kernel
theorem dX6_canBe_80 : decode cX6_canBe 80 = .ok (.istore_n 2, 1) := by decide +kernel
theorem dX6_canBe_81 : decode cX6_canBe 81 = .ok (.iconst 0, 1) := by decide +kernel
theorem dX6_canBe_82 : decode cX6_canBe 82 = .ok (.istore_n 3, 1) := by decide +kernel
theorem dX6_canBe_83 : decode cX6_canBe 83 = .ok (.iload_n 2, 1) := by decide +kernel
theorem dX6_canBe_84 : decode cX6_canBe 84 = .ok (.ifCond .eq 190, 3) := by decide +kernel
theorem dX6_canBe_87 : decode cX6_canBe 87 = .ok (.iload_n 3, 1) := by decide +kernel
theorem dX6_canBe_88 : decode cX6_canBe 88 = .ok (.bipush 9, 2) := by decide +kernel
theorem dX6_canBe_90 : decode cX6_canBe 90 = .ok (.if_icmp .ne 5, 3) := by decide +kernel
theorem dX6_canBe_93 : decode cX6_canBe 93 = .ok (.iconst 0, 1) := by decide +kernel
theorem dX6_canBe_94 : decode cX6_canBe 94 = .ok (.ireturn, 1) := by decide +kernel
theorem dX6_canBe_95 : decode cX6_canBe 95 = .ok (.iinc 3 1, 3) := by decide +kernel
theorem dX6_canBe_98 : decode cX6_canBe 98 = .ok (.iconst 0, 1) := by decide +kernel
theorem dX6_canBe_99 : decode cX6_canBe 99 = .ok (.istore_n 2, 1) := by decide +kernel
theorem dX6_canBe_100 : decode cX6_canBe 100 = .ok (.iconst 0, 1) := by decide +kernel
theorem dX6_canBe_101 : decode cX6_canBe 101 = .ok (.istore 4, 2) := by decide +kernel
theorem dX6_canBe_103 : decode cX6_canBe 103 = .ok (.iload 4, 2) := by decide +kernel
theorem dX6_canBe_105 : decode cX6_canBe 105 = .ok (.aload_n 0, 1) := by decide +kernel
theorem dX6_canBe_106 : decode cX6_canBe 106 = .ok (.getfield 158, 3) := by decide +kernel
theorem dX6_canBe_109 : decode cX6_canBe 109 = .ok (.if_icmp .ge 125, 3) := by decide +kernel
theorem dX6_canBe_112 : decode cX6_canBe 112 = .ok (.aload_n 0, 1) := by decide +kernel
theorem dX6_canBe_113 : decode cX6_canBe 113 = .ok (.iload 4, 2) := by decide +kernel
theorem dX6_canBe_115 : decode cX6_canBe 115 = .ok (.invokevirtual 190, 3) := by decide +kernel
theorem dX6_canBe_118 : decode cX6_canBe 118 = .ok (.ifCond .eq 110, 3) := by decide +kernel
theorem dX6_canBe_121 : decode cX6_canBe 121 = .ok (.aload_n 0, 1) := by decide +kernel
theorem dX6_canBe_122 : decode cX6_canBe 122 = .ok (.getfield 22, 3) := by decide +kernel
theorem dX6_canBe_125 : decode cX6_canBe 125 = .ok (.iload 4, 2) := by decide +kernel
theorem dX6_canBe_127 : decode cX6_canBe 127 = .ok (.iaload, 1) := by decide +kernel
theorem dX6_canBe_128 : decode cX6_canBe 128 = .ok (.bipush 6, 2) := by decide +kernel
theorem dX6_canBe_130 : decode cX6_canBe 130 = .ok (.if_icmp .eq 6, 3) := by decide +kernel
theorem dX6_canBe_133 : decode cX6_canBe 133 = .ok (.goto 95, 3) := by decide +kernel
theorem dX6_canBe_136 : decode cX6_canBe 136 = .ok (.aload_n 0, 1) := by decide +kernel
theorem dX6_canBe_137 : decode cX6_canBe 137 = .ok (.aload_n 0, 1) := by decide +kernel
theorem dX6_canBe_138 : decode cX6_canBe 138 = .ok (.getfield 19, 3) := by decide +kernel
theorem dX6_canBe_141 : decode cX6_canBe 141 = .ok (.iload 4, 2) := by decide +kernel
theorem dX6_canBe_143 : decode cX6_canBe 143 = .ok (.iaload, 1) := by decide +kernel
theorem dX6_canBe_144 : decode cX6_canBe 144 = .ok (.aload_n 0, 1) := by decide +kernel
theorem dX6_canBe_145 : decode cX6_canBe 145 = .ok (.getfield 31, 3) := by decide +kernel
theorem dX6_canBe_148 : decode cX6_canBe 148 = .ok (.iload 4, 2) := by decide +kernel
theorem dX6_canBe_150 : decode cX6_canBe 150 = .ok (.iaload, 1) := by decide +kernel
theorem dX6_canBe_151 : decode cX6_canBe 151 = .ok (.aload_n 0, 1) := by decide +kernel
theorem dX6_canBe_152 : decode cX6_canBe 152 = .ok (.getfield 25, 3) := by decide +kernel
theorem dX6_canBe_155 : decode cX6_canBe 155 = .ok (.iload 4, 2) := by decide +kernel
theorem dX6_canBe_157 : decode cX6_canBe 157 = .ok (.iaload, 1) := by decide +kernel
theorem dX6_canBe_158 : decode cX6_canBe 158 = .ok (.aload_n 0, 1) := by decide +kernel
theorem dX6_canBe_159 : decode cX6_canBe 159 = .ok (.getfield 28, 3) := by decide +kernel
theorem dX6_canBe_162 : decode cX6_canBe 162 = .ok (.iload 4, 2) := by decide +kernel
theorem dX6_canBe_164 : decode cX6_canBe 164 = .ok (.iaload, 1) := by decide +kernel
theorem dX6_canBe_165 : decode cX6_canBe 165 = .ok (.invokevirtual 206, 3) := by decide +kernel
theorem dX6_canBe_168 : decode cX6_canBe 168 = .ok (.ifCond .ne 7, 3) := by decide +kernel
theorem dX6_canBe_171 : decode cX6_canBe 171 = .ok (.iload_n 2, 1) := by decide +kernel
theorem dX6_canBe_172 : decode cX6_canBe 172 = .ok (.ifCond .eq 7, 3) := by decide +kernel
theorem dX6_canBe_175 : decode cX6_canBe 175 = .ok (.iconst 1, 1) := by decide +kernel
theorem dX6_canBe_176 : decode cX6_canBe 176 = .ok (.goto 4, 3) := by decide +kernel
theorem dX6_canBe_179 : decode cX6_canBe 179 = .ok (.iconst 0, 1) := by decide +kernel
theorem dX6_canBe_180 : decode cX6_canBe 180 = .ok (.istore_n 2, 1) := by decide +kernel
theorem dX6_canBe_181 : decode cX6_canBe 181 = .ok (.aload_n 0, 1) := by decide +kernel
theorem dX6_canBe_182 : decode cX6_canBe 182 = .ok (.aload_n 0, 1) := by decide +kernel
theorem dX6_canBe_183 : decode cX6_canBe 183 = .ok (.getfield 31, 3) := by decide +kernel
theorem dX6_canBe_186 : decode cX6_canBe 186 = .ok (.iload 4, 2) := by decide +kernel
theorem dX6_canBe_188 : decode cX6_canBe 188 = .ok (.iaload, 1) := by decide +kernel
theorem dX6_canBe_189 : decode cX6_canBe 189 = .ok (.aload_n 0, 1) := by decide +kernel
theorem dX6_canBe_190 : decode cX6_canBe 190 = .ok (.getfield 19, 3) := by decide +kernel
theorem dX6_canBe_193 : decode cX6_canBe 193 = .ok (.iload 4, 2) := by decide +kernel
theorem dX6_canBe_195 : decode cX6_canBe 195 = .ok (.iaload, 1) := by decide +kernel
theorem dX6_canBe_196 : decode cX6_canBe 196 = .ok (.aload_n 0, 1) := by decide +kernel
theorem dX6_canBe_197 : decode cX6_canBe 197 = .ok (.getfield 28, 3) := by decide +kernel
theorem dX6_canBe_200 : decode cX6_canBe 200 = .ok (.iload 4, 2) := by decide +kernel
theorem dX6_canBe_202 : decode cX6_canBe 202 = .ok (.iaload, 1) := by decide +kernel
theorem dX6_canBe_203 : decode cX6_canBe 203 = .ok (.ineg, 1) := by decide +kernel
theorem dX6_canBe_204 : decode cX6_canBe 204 = .ok (.aload_n 0, 1) := by decide +kernel
theorem dX6_canBe_205 : decode cX6_canBe 205 = .ok (.getfield 25, 3) := by decide +kernel
theorem dX6_canBe_208 : decode cX6_canBe 208 = .ok (.iload 4, 2) := by decide +kernel
theorem dX6_canBe_210 : decode cX6_canBe 210 = .ok (.iaload, 1) := by decide +kernel
theorem dX6_canBe_211 : decode cX6_canBe 211 = .ok (.ineg, 1) := by decide +kernel
theorem dX6_canBe_212 : decode cX6_canBe 212 = .ok (.invokevirtual 206, 3) := by decide +kernel
theorem dX6_canBe_215 : decode cX6_canBe 215 = .ok (.ifCond .ne 7, 3) := by decide +kernel
theorem dX6_canBe_218 : decode cX6_canBe 218 = .ok (.iload_n 2, 1) := by decide +kernel
theorem dX6_canBe_219 : decode cX6_canBe 219 = .ok (.ifCond .eq 7, 3) := by decide +kernel
theorem dX6_canBe_222 : decode cX6_canBe 222 = .ok (.iconst 1, 1) := by decide +kernel
theorem dX6_canBe_223 : decode cX6_canBe 223 = .ok (.goto 4, 3) := by decide +kernel
theorem dX6_canBe_226 : decode cX6_canBe 226 = .ok (.iconst 0, 1) := by decide +kernel
theorem dX6_canBe_227 : decode cX6_canBe 227 = .ok (.istore_n 2, 1) := by decide +kernel
theorem dX6_canBe_228 : decode cX6_canBe 228 = .ok (.iinc 4 1, 3) := by decide +kernel
theorem dX6_canBe_231 : decode cX6_canBe 231 = .ok (.goto (-128), 3) := by decide +kernel
theorem dX6_canBe_234 : decode cX6_canBe 234 = .ok (.iconst 0, 1) := by decide +kernel
theorem dX6_canBe_235 : decode cX6_canBe 235 = .ok (.istore 4, 2) := by decide +kernel
theorem dX6_canBe_237 : decode cX6_canBe 237 = .ok (.iload 4, 2) := by decide +kernel
theorem dX6_canBe_239 : decode cX6_canBe 239 = .ok (.aload_n 0, 1) := by decide +kernel
theorem dX6_canBe_240 : decode cX6_canBe 240 = .ok (.getfield 151, 3) := by decide +kernel
theorem dX6_canBe_243 : decode cX6_canBe 243 = .ok (.if_icmp .ge 28, 3) := by decide +kernel
theorem dX6_canBe_246 : decode cX6_canBe 246 = .ok (.aload_n 0, 1) := by decide +kernel
theorem dX6_canBe_247 : decode cX6_canBe 247 = .ok (.getfield 68, 3) := by decide +kernel
theorem dX6_canBe_250 : decode cX6_canBe 250 = .ok (.iload 4, 2) := by decide +kernel
theorem dX6_canBe_252 : decode cX6_canBe 252 = .ok (.iaload, 1) := by decide +kernel
theorem dX6_canBe_253 : decode cX6_canBe 253 = .ok (.aload_n 0, 1) := by decide +kernel
theorem dX6_canBe_254 : decode cX6_canBe 254 = .ok (.getfield 71, 3) := by decide +kernel
theorem dX6_canBe_257 : decode cX6_canBe 257 = .ok (.iload 4, 2) := by decide +kernel
theorem dX6_canBe_259 : decode cX6_canBe 259 = .ok (.iaload, 1) := by decide +kernel
theorem dX6_canBe_260 : decode cX6_canBe 260 = .ok (.if_icmp .le 5, 3) := by decide +kernel
theorem dX6_canBe_263 : decode cX6_canBe 263 = .ok (.iconst 0, 1) := by decide +kernel
theorem dX6_canBe_264 : decode cX6_canBe 264 = .ok (.ireturn, 1) := by decide +kernel
theorem dX6_canBe_265 : decode cX6_canBe 265 = .ok (.iinc 4 1, 3) := by decide +kernel
theorem dX6_canBe_268 : decode cX6_canBe 268 = .ok (.goto (-31), 3) := by decide +kernel
theorem dX6_canBe_271 : decode cX6_canBe 271 = .ok (.goto (-188), 3) := by decide +kernel
theorem dX6_canBe_274 : decode cX6_canBe 274 = .ok (.iconst 1, 1) := by decide +kernel
theorem dX6_canBe_275 : decode cX6_canBe 275 = .ok (.ireturn, 1) := by decide +kernel
theorem dX6_narrows_0 : decode cX6_narrows 0 = .ok (.aload_n 0, 1) := by decide +kernel
theorem dX6_narrows_1 : decode cX6_narrows 1 = .ok (.getfield 68, 3) := by decide +kernel
theorem dX6_narrows_4 : decode cX6_narrows 4 = .ok (.iload_n 2, 1) := by decide +kernel
theorem dX6_narrows_5 : decode cX6_narrows 5 = .ok (.iaload, 1) := by decide +kernel
theorem dX6_narrows_6 : decode cX6_narrows 6 = .ok (.iload_n 3, 1) := by decide +kernel
theorem dX6_narrows_7 : decode cX6_narrows 7 = .ok (.iadd, 1) := by decide +kernel
theorem dX6_narrows_8 : decode cX6_narrows 8 = .ok (.aload_n 0, 1) := by decide +kernel
theorem dX6_narrows_9 : decode cX6_narrows 9 = .ok (.getfield 68, 3) := by decide +kernel
theorem dX6_narrows_12 : decode cX6_narrows 12 = .ok (.iload_n 1, 1) := by decide +kernel
theorem dX6_narrows_13 : decode cX6_narrows 13 = .ok (.iaload, 1) := by decide +kernel
theorem dX6_narrows_14 : decode cX6_narrows 14 = .ok (.if_icmp .gt 21, 3) := by decide +kernel
theorem dX6_narrows_17 : decode cX6_narrows 17 = .ok (.aload_n 0, 1) := by decide +kernel
theorem dX6_narrows_18 : decode cX6_narrows 18 = .ok (.getfield 71, 3) := by decide +kernel
theorem dX6_narrows_21 : decode cX6_narrows 21 = .ok (.iload_n 2, 1) := by decide +kernel
theorem dX6_narrows_22 : decode cX6_narrows 22 = .ok (.iaload, 1) := by decide +kernel
theorem dX6_narrows_23 : decode cX6_narrows 23 = .ok (.iload 4, 2) := by decide +kernel
theorem dX6_narrows_25 : decode cX6_narrows 25 = .ok (.iadd, 1) := by decide +kernel
theorem dX6_narrows_26 : decode cX6_narrows 26 = .ok (.aload_n 0, 1) := by decide +kernel
theorem dX6_narrows_27 : decode cX6_narrows 27 = .ok (.getfield 71, 3) := by decide +kernel
theorem dX6_narrows_30 : decode cX6_narrows 30 = .ok (.iload_n 1, 1) := by decide +kernel
theorem dX6_narrows_31 : decode cX6_narrows 31 = .ok (.iaload, 1) := by decide +kernel
theorem dX6_narrows_32 : decode cX6_narrows 32 = .ok (.if_icmp .ge 7, 3) := by decide +kernel
theorem dX6_narrows_35 : decode cX6_narrows 35 = .ok (.iconst 1, 1) := by decide +kernel
theorem dX6_narrows_36 : decode cX6_narrows 36 = .ok (.goto 4, 3) := by decide +kernel
theorem dX6_narrows_39 : decode cX6_narrows 39 = .ok (.iconst 0, 1) := by decide +kernel
theorem dX6_narrows_40 : decode cX6_narrows 40 = .ok (.istore 5, 2) := by decide +kernel
theorem dX6_narrows_42 : decode cX6_narrows 42 = .ok (.aload_n 0, 1) := by decide +kernel
theorem dX6_narrows_43 : decode cX6_narrows 43 = .ok (.getfield 68, 3) := by decide +kernel
theorem dX6_narrows_46 : decode cX6_narrows 46 = .ok (.iload_n 1, 1) := by decide +kernel
theorem dX6_narrows_47 : decode cX6_narrows 47 = .ok (.aload_n 0, 1) := by decide +kernel
theorem dX6_narrows_48 : decode cX6_narrows 48 = .ok (.getfield 68, 3) := by decide +kernel
theorem dX6_narrows_51 : decode cX6_narrows 51 = .ok (.iload_n 1, 1) := by decide +kernel
theorem dX6_narrows_52 : decode cX6_narrows 52 = .ok (.iaload, 1) := by decide +kernel
theorem dX6_narrows_53 : decode cX6_narrows 53 = .ok (.aload_n 0, 1) := by decide +kernel
theorem dX6_narrows_54 : decode cX6_narrows 54 = .ok (.getfield 68, 3) := by decide +kernel
theorem dX6_narrows_57 : decode cX6_narrows 57 = .ok (.iload_n 2, 1) := by decide +kernel
theorem dX6_narrows_58 : decode cX6_narrows 58 = .ok (.iaload, 1) := by decide +kernel
theorem dX6_narrows_59 : decode cX6_narrows 59 = .ok (.iload_n 3, 1) := by decide +kernel
theorem dX6_narrows_60 : decode cX6_narrows 60 = .ok (.iadd, 1) := by decide +kernel
theorem dX6_narrows_61 : decode cX6_narrows 61 = .ok (.invokestatic 128, 3) := by decide +kernel
theorem dX6_narrows_64 : decode cX6_narrows 64 = .ok (.iastore, 1) := by decide +kernel
theorem dX6_narrows_65 : decode cX6_narrows 65 = .ok (.aload_n 0, 1) := by decide +kernel
theorem dX6_narrows_66 : decode cX6_narrows 66 = .ok (.getfield 71, 3) := by decide +kernel
theorem dX6_narrows_69 : decode cX6_narrows 69 = .ok (.iload_n 1, 1) := by decide +kernel
theorem dX6_narrows_70 : decode cX6_narrows 70 = .ok (.aload_n 0, 1) := by decide +kernel
theorem dX6_narrows_71 : decode cX6_narrows 71 = .ok (.getfield 71, 3) := by decide +kernel
theorem dX6_narrows_74 : decode cX6_narrows 74 = .ok (.iload_n 1, 1) := by decide +kernel
theorem dX6_narrows_75 : decode cX6_narrows 75 = .ok (.iaload, 1) := by decide +kernel
theorem dX6_narrows_76 : decode cX6_narrows 76 = .ok (.aload_n 0, 1) := by decide +kernel
theorem dX6_narrows_77 : decode cX6_narrows 77 = .ok (.getfield 71, 3) := by decide +kernel
theorem dX6_narrows_80 : decode cX6_narrows 80 = .ok (.iload_n 2, 1) := by decide +kernel
theorem dX6_narrows_81 : decode cX6_narrows 81 = .ok (.iaload, 1) := by decide +kernel
theorem dX6_narrows_82 : decode cX6_narrows 82 = .ok (.iload 4, 2) := by decide +kernel
theorem dX6_narrows_84 : decode cX6_narrows 84 = .ok (.iadd, 1) := by decide +kernel
theorem dX6_narrows_85 : decode cX6_narrows 85 = .ok (.invokestatic 155, 3) := by decide +kernel
theorem dX6_narrows_88 : decode cX6_narrows 88 = .ok (.iastore, 1) := by decide +kernel
theorem dX6_narrows_89 : decode cX6_narrows 89 = .ok (.iload 5, 2) := by decide +kernel
theorem dX6_narrows_91 : decode cX6_narrows 91 = .ok (.ireturn, 1) := by decide +kernel
set_option maxRecDepth 20000 in
theorem ggX6_walks_X6_eventSpans : GoodIn wsX6_walks wsX6_eventSpans := goodIn_r _ [11, 3, 5, 12, 13, 14, 15, 16, 17, 18, 19, 20, 21, 10, 22, 23, 24, 25, 26, 27, 28, 29, 30, 31, 32, 33, 34, 35, 36, 37, 38, 39, 40, 41, 42, 43, 44, 64, 65, 66, 67, 68, 69, 70, 71, 72, 73, 74, 75, 76, 77, 78, 79, 80, 81, 82, 83, 84, 85, 86, 87, 88, 89, 90, 91, 92, 93, 94, 95, 96, 97, 98, 99, 100, 101, 102, 103, 104, 105, 106] (by decide +kernel) (by decide +kernel)
set_option maxRecDepth 20000 in
theorem gX6_walks_X6_eventSpans : GoodIn wsX6_walks (wsV RX6 209 RX6 yX6_eventSpans wsX6_eventSpans) := goodIn_app (goodIn_of _ (by decide +kernel)) ggX6_walks_X6_eventSpans
set_option maxRecDepth 20000 in
theorem ggX6_walks_X6_canBe : GoodIn wsX6_walks wsX6_canBe := goodIn_r _ [48, 3, 49, 12, 2, 50, 13, 14, 15, 17, 16, 51, 52, 53, 19, 20, 21, 10, 22, 23, 54, 55, 56, 57, 30, 31, 32, 33, 35, 36, 37, 64, 65, 66, 67, 68, 69, 70, 71, 72, 73, 74, 75, 76, 77, 78, 79, 80, 81, 82, 83, 84, 85, 86, 87, 88, 89, 90, 91, 92, 93, 94, 95, 96, 97, 98, 99, 100, 101, 102, 103, 104, 105, 106] (by decide +kernel) (by decide +kernel)
set_option maxRecDepth 20000 in
theorem gX6_walks_X6_canBe : GoodIn wsX6_walks (wsV RX6 222 RX6 yX6_canBe wsX6_canBe) := goodIn_app (goodIn_of _ (by decide +kernel)) ggX6_walks_X6_canBe
set_option maxRecDepth 20000 in
theorem ggX6_walks_X6_widens : GoodIn wsX6_walks wsX6_widens := goodIn_r _ [61, 3, 62, 1, 49, 35, 36, 32, 37, 63, 50, 30, 31, 33, 64, 65, 66, 67, 68, 69, 70, 71, 72, 73, 74, 75, 76, 77, 78, 79, 80, 81, 82, 83, 84, 85, 86, 87, 88, 89, 90, 91, 92, 93, 94, 95, 96, 97, 98, 99, 100, 101, 102, 103, 104, 105, 106] (by decide +kernel) (by decide +kernel)
set_option maxRecDepth 20000 in
theorem gX6_walks_X6_widens : GoodIn wsX6_walks (wsV RX6 225 RX6 yX6_widens wsX6_widens) := goodIn_app (goodIn_of _ (by decide +kernel)) ggX6_walks_X6_widens
theorem dX6_walks_0 : decode cX6_walks 0 = .ok (.aload_n 0, 1) := by decide +kernel
theorem dX6_walks_1 : decode cX6_walks 1 = .ok (.invokevirtual 209, 3) := by decide +kernel
theorem dX6_walks_4 : decode cX6_walks 4 = .ok (.aload_n 0, 1) := by decide +kernel
theorem dX6_walks_5 : decode cX6_walks 5 = .ok (.iconst 0, 1) := by decide +kernel
theorem dX6_walks_6 : decode cX6_walks 6 = .ok (.putfield 212, 3) := by decide +kernel
theorem dX6_walks_9 : decode cX6_walks 9 = .ok (.iconst 0, 1) := by decide +kernel
theorem dX6_walks_10 : decode cX6_walks 10 = .ok (.istore_n 2, 1) := by decide +kernel
theorem dX6_walks_11 : decode cX6_walks 11 = .ok (.aload_n 0, 1) := by decide +kernel
theorem dX6_walks_12 : decode cX6_walks 12 = .ok (.getfield 74, 3) := by decide +kernel
theorem dX6_walks_15 : decode cX6_walks 15 = .ok (.iconst 0, 1) := by decide +kernel
theorem dX6_walks_16 : decode cX6_walks 16 = .ok (.iconst (-1), 1) := by decide +kernel
theorem dX6_walks_17 : decode cX6_walks 17 = .ok (.iastore, 1) := by decide +kernel
theorem dX6_walks_18 : decode cX6_walks 18 = .ok (.aload_n 0, 1) := by decide +kernel
theorem dX6_walks_19 : decode cX6_walks 19 = .ok (.getfield 151, 3) := by decide +kernel
theorem dX6_walks_22 : decode cX6_walks 22 = .ok (.ifCond .ne 9, 3) := by decide +kernel
theorem dX6_walks_25 : decode cX6_walks 25 = .ok (.aload_n 0, 1) := by decide +kernel
theorem dX6_walks_26 : decode cX6_walks 26 = .ok (.iconst 1, 1) := by decide +kernel
theorem dX6_walks_27 : decode cX6_walks 27 = .ok (.putfield 212, 3) := by decide +kernel
theorem dX6_walks_30 : decode cX6_walks 30 = .ok (.return_, 1) := by decide +kernel
theorem dX6_walks_31 : decode cX6_walks 31 = .ok (.iload_n 2, 1) := by decide +kernel
theorem dX6_walks_32 : decode cX6_walks 32 = .ok (.ifCond .lt 112, 3) := by decide +kernel
theorem dX6_walks_35 : decode cX6_walks 35 = .ok (.aload_n 0, 1) := by decide +kernel
theorem dX6_walks_36 : decode cX6_walks 36 = .ok (.getfield 216, 3) := by decide +kernel
theorem dX6_walks_39 : decode cX6_walks 39 = .ok (.ifCond .ne 105, 3) := by decide +kernel
theorem dX6_walks_42 : decode cX6_walks 42 = .ok (.aload_n 0, 1) := by decide +kernel
theorem dX6_walks_43 : decode cX6_walks 43 = .ok (.getfield 74, 3) := by decide +kernel
theorem dX6_walks_46 : decode cX6_walks 46 = .ok (.iload_n 2, 1) := by decide +kernel
theorem dX6_walks_47 : decode cX6_walks 47 = .ok (.dup2, 1) := by decide +kernel
theorem dX6_walks_48 : decode cX6_walks 48 = .ok (.iaload, 1) := by decide +kernel
theorem dX6_walks_49 : decode cX6_walks 49 = .ok (.iconst 1, 1) := by decide +kernel
theorem dX6_walks_50 : decode cX6_walks 50 = .ok (.iadd, 1) := by decide +kernel
theorem dX6_walks_51 : decode cX6_walks 51 = .ok (.iastore, 1) := by decide +kernel
theorem dX6_walks_52 : decode cX6_walks 52 = .ok (.aload_n 0, 1) := by decide +kernel
theorem dX6_walks_53 : decode cX6_walks 53 = .ok (.getfield 74, 3) := by decide +kernel
theorem dX6_walks_56 : decode cX6_walks 56 = .ok (.iload_n 2, 1) := by decide +kernel
theorem dX6_walks_57 : decode cX6_walks 57 = .ok (.iaload, 1) := by decide +kernel
theorem dX6_walks_58 : decode cX6_walks 58 = .ok (.aload_n 0, 1) := by decide +kernel
theorem dX6_walks_59 : decode cX6_walks 59 = .ok (.getfield 59, 3) := by decide +kernel
theorem dX6_walks_62 : decode cX6_walks 62 = .ok (.iload_n 2, 1) := by decide +kernel
theorem dX6_walks_63 : decode cX6_walks 63 = .ok (.iaload, 1) := by decide +kernel
theorem dX6_walks_64 : decode cX6_walks 64 = .ok (.if_icmp .lt 9, 3) := by decide +kernel
theorem dX6_walks_67 : decode cX6_walks 67 = .ok (.iinc 2 (-1), 3) := by decide +kernel
theorem dX6_walks_70 : decode cX6_walks 70 = .ok (.goto (-39), 3) := by decide +kernel
theorem dX6_walks_73 : decode cX6_walks 73 = .ok (.aload_n 0, 1) := by decide +kernel
theorem dX6_walks_74 : decode cX6_walks 74 = .ok (.getfield 219, 3) := by decide +kernel
theorem dX6_walks_77 : decode cX6_walks 77 = .ok (.sipush 20000, 3) := by decide +kernel
theorem dX6_walks_80 : decode cX6_walks 80 = .ok (.if_icmp .ne 9, 3) := by decide +kernel
theorem dX6_walks_83 : decode cX6_walks 83 = .ok (.aload_n 0, 1) := by decide +kernel
theorem dX6_walks_84 : decode cX6_walks 84 = .ok (.iconst 1, 1) := by decide +kernel
theorem dX6_walks_85 : decode cX6_walks 85 = .ok (.putfield 216, 3) := by decide +kernel
theorem dX6_walks_88 : decode cX6_walks 88 = .ok (.return_, 1) := by decide +kernel
theorem dX6_walks_89 : decode cX6_walks 89 = .ok (.aload_n 0, 1) := by decide +kernel
theorem dX6_walks_90 : decode cX6_walks 90 = .ok (.dup, 1) := by decide +kernel
theorem dX6_walks_91 : decode cX6_walks 91 = .ok (.getfield 219, 3) := by decide +kernel
theorem dX6_walks_94 : decode cX6_walks 94 = .ok (.iconst 1, 1) := by decide +kernel
theorem dX6_walks_95 : decode cX6_walks 95 = .ok (.iadd, 1) := by decide +kernel
theorem dX6_walks_96 : decode cX6_walks 96 = .ok (.putfield 219, 3) := by decide +kernel
theorem dX6_walks_99 : decode cX6_walks 99 = .ok (.aload_n 0, 1) := by decide +kernel
theorem dX6_walks_100 : decode cX6_walks 100 = .ok (.iload_n 2, 1) := by decide +kernel
theorem dX6_walks_101 : decode cX6_walks 101 = .ok (.iconst 1, 1) := by decide +kernel
theorem dX6_walks_102 : decode cX6_walks 102 = .ok (.iadd, 1) := by decide +kernel
theorem dX6_walks_103 : decode cX6_walks 103 = .ok (.invokevirtual 222, 3) := by decide +kernel
theorem dX6_walks_106 : decode cX6_walks 106 = .ok (.ifCond .ne 6, 3) := by decide +kernel
theorem dX6_walks_109 : decode cX6_walks 109 = .ok (.goto (-78), 3) := by decide +kernel
theorem dX6_walks_112 : decode cX6_walks 112 = .ok (.iload_n 2, 1) := by decide +kernel
theorem dX6_walks_113 : decode cX6_walks 113 = .ok (.iconst 1, 1) := by decide +kernel
theorem dX6_walks_114 : decode cX6_walks 114 = .ok (.iadd, 1) := by decide +kernel
theorem dX6_walks_115 : decode cX6_walks 115 = .ok (.aload_n 0, 1) := by decide +kernel
theorem dX6_walks_116 : decode cX6_walks 116 = .ok (.getfield 151, 3) := by decide +kernel
theorem dX6_walks_119 : decode cX6_walks 119 = .ok (.if_icmp .ge 16, 3) := by decide +kernel
theorem dX6_walks_122 : decode cX6_walks 122 = .ok (.iinc 2 1, 3) := by decide +kernel
theorem dX6_walks_125 : decode cX6_walks 125 = .ok (.aload_n 0, 1) := by decide +kernel
theorem dX6_walks_126 : decode cX6_walks 126 = .ok (.getfield 74, 3) := by decide +kernel
theorem dX6_walks_129 : decode cX6_walks 129 = .ok (.iload_n 2, 1) := by decide +kernel
theorem dX6_walks_130 : decode cX6_walks 130 = .ok (.iconst (-1), 1) := by decide +kernel
theorem dX6_walks_131 : decode cX6_walks 131 = .ok (.iastore, 1) := by decide +kernel
theorem dX6_walks_132 : decode cX6_walks 132 = .ok (.goto (-101), 3) := by decide +kernel
theorem dX6_walks_135 : decode cX6_walks 135 = .ok (.aload_n 0, 1) := by decide +kernel
theorem dX6_walks_136 : decode cX6_walks 136 = .ok (.invokevirtual 225, 3) := by decide +kernel
theorem dX6_walks_139 : decode cX6_walks 139 = .ok (.iload_n 1, 1) := by decide +kernel
theorem dX6_walks_140 : decode cX6_walks 140 = .ok (.ifCond .ne (-109), 3) := by decide +kernel
theorem dX6_walks_143 : decode cX6_walks 143 = .ok (.return_, 1) := by decide +kernel
theorem dX6_walks_144 : decode cX6_walks 144 = .ok (.return_, 1) := by decide +kernel
theorem dX6_widens_0 : decode cX6_widens 0 = .ok (.iconst 0, 1) := by decide +kernel
theorem dX6_widens_1 : decode cX6_widens 1 = .ok (.istore_n 1, 1) := by decide +kernel
theorem dX6_widens_2 : decode cX6_widens 2 = .ok (.iload_n 1, 1) := by decide +kernel
theorem dX6_widens_3 : decode cX6_widens 3 = .ok (.aload_n 0, 1) := by decide +kernel
theorem dX6_widens_4 : decode cX6_widens 4 = .ok (.getfield 151, 3) := by decide +kernel
theorem dX6_widens_7 : decode cX6_widens 7 = .ok (.if_icmp .ge 83, 3) := by decide +kernel
theorem dX6_widens_10 : decode cX6_widens 10 = .ok (.aload_n 0, 1) := by decide +kernel
theorem dX6_widens_11 : decode cX6_widens 11 = .ok (.getfield 77, 3) := by decide +kernel
theorem dX6_widens_14 : decode cX6_widens 14 = .ok (.iload_n 1, 1) := by decide +kernel
theorem dX6_widens_15 : decode cX6_widens 15 = .ok (.aload_n 0, 1) := by decide +kernel
theorem dX6_widens_16 : decode cX6_widens 16 = .ok (.getfield 212, 3) := by decide +kernel
theorem dX6_widens_19 : decode cX6_widens 19 = .ok (.ifCond .eq 21, 3) := by decide +kernel
theorem dX6_widens_22 : decode cX6_widens 22 = .ok (.aload_n 0, 1) := by decide +kernel
theorem dX6_widens_23 : decode cX6_widens 23 = .ok (.getfield 77, 3) := by decide +kernel
theorem dX6_widens_26 : decode cX6_widens 26 = .ok (.iload_n 1, 1) := by decide +kernel
theorem dX6_widens_27 : decode cX6_widens 27 = .ok (.iaload, 1) := by decide +kernel
theorem dX6_widens_28 : decode cX6_widens 28 = .ok (.aload_n 0, 1) := by decide +kernel
theorem dX6_widens_29 : decode cX6_widens 29 = .ok (.getfield 68, 3) := by decide +kernel
theorem dX6_widens_32 : decode cX6_widens 32 = .ok (.iload_n 1, 1) := by decide +kernel
theorem dX6_widens_33 : decode cX6_widens 33 = .ok (.iaload, 1) := by decide +kernel
theorem dX6_widens_34 : decode cX6_widens 34 = .ok (.invokestatic 155, 3) := by decide +kernel
theorem dX6_widens_37 : decode cX6_widens 37 = .ok (.goto 9, 3) := by decide +kernel
theorem dX6_widens_40 : decode cX6_widens 40 = .ok (.aload_n 0, 1) := by decide +kernel
theorem dX6_widens_41 : decode cX6_widens 41 = .ok (.getfield 68, 3) := by decide +kernel
theorem dX6_widens_44 : decode cX6_widens 44 = .ok (.iload_n 1, 1) := by decide +kernel
theorem dX6_widens_45 : decode cX6_widens 45 = .ok (.iaload, 1) := by decide +kernel
theorem dX6_widens_46 : decode cX6_widens 46 = .ok (.iastore, 1) := by decide +kernel
theorem dX6_widens_47 : decode cX6_widens 47 = .ok (.aload_n 0, 1) := by decide +kernel
theorem dX6_widens_48 : decode cX6_widens 48 = .ok (.getfield 80, 3) := by decide +kernel
theorem dX6_widens_51 : decode cX6_widens 51 = .ok (.iload_n 1, 1) := by decide +kernel
theorem dX6_widens_52 : decode cX6_widens 52 = .ok (.aload_n 0, 1) := by decide +kernel
theorem dX6_widens_53 : decode cX6_widens 53 = .ok (.getfield 212, 3) := by decide +kernel
theorem dX6_widens_56 : decode cX6_widens 56 = .ok (.ifCond .eq 21, 3) := by decide +kernel
theorem dX6_widens_59 : decode cX6_widens 59 = .ok (.aload_n 0, 1) := by decide +kernel
theorem dX6_widens_60 : decode cX6_widens 60 = .ok (.getfield 80, 3) := by decide +kernel
theorem dX6_widens_63 : decode cX6_widens 63 = .ok (.iload_n 1, 1) := by decide +kernel
theorem dX6_widens_64 : decode cX6_widens 64 = .ok (.iaload, 1) := by decide +kernel
theorem dX6_widens_65 : decode cX6_widens 65 = .ok (.aload_n 0, 1) := by decide +kernel
theorem dX6_widens_66 : decode cX6_widens 66 = .ok (.getfield 71, 3) := by decide +kernel
theorem dX6_widens_69 : decode cX6_widens 69 = .ok (.iload_n 1, 1) := by decide +kernel
theorem dX6_widens_70 : decode cX6_widens 70 = .ok (.iaload, 1) := by decide +kernel
theorem dX6_widens_71 : decode cX6_widens 71 = .ok (.invokestatic 128, 3) := by decide +kernel
theorem dX6_widens_74 : decode cX6_widens 74 = .ok (.goto 9, 3) := by decide +kernel
theorem dX6_widens_77 : decode cX6_widens 77 = .ok (.aload_n 0, 1) := by decide +kernel
theorem dX6_widens_78 : decode cX6_widens 78 = .ok (.getfield 71, 3) := by decide +kernel
theorem dX6_widens_81 : decode cX6_widens 81 = .ok (.iload_n 1, 1) := by decide +kernel
theorem dX6_widens_82 : decode cX6_widens 82 = .ok (.iaload, 1) := by decide +kernel
theorem dX6_widens_83 : decode cX6_widens 83 = .ok (.iastore, 1) := by decide +kernel
theorem dX6_widens_84 : decode cX6_widens 84 = .ok (.iinc 1 1, 3) := by decide +kernel
theorem dX6_widens_87 : decode cX6_widens 87 = .ok (.goto (-85), 3) := by decide +kernel
theorem dX6_widens_90 : decode cX6_widens 90 = .ok (.aload_n 0, 1) := by decide +kernel
theorem dX6_widens_91 : decode cX6_widens 91 = .ok (.iconst 1, 1) := by decide +kernel
theorem dX6_widens_92 : decode cX6_widens 92 = .ok (.putfield 212, 3) := by decide +kernel
theorem dX6_widens_95 : decode cX6_widens 95 = .ok (.return_, 1) := by decide +kernel
theorem dX6_begins_0 : decode cX6_begins 0 = .ok (.aload_n 0, 1) := by decide +kernel
theorem dX6_begins_1 : decode cX6_begins 1 = .ok (.iconst 0, 1) := by decide +kernel
theorem dX6_begins_2 : decode cX6_begins 2 = .ok (.putfield 219, 3) := by decide +kernel
theorem dX6_begins_5 : decode cX6_begins 5 = .ok (.aload_n 0, 1) := by decide +kernel
theorem dX6_begins_6 : decode cX6_begins 6 = .ok (.iconst 0, 1) := by decide +kernel
theorem dX6_begins_7 : decode cX6_begins 7 = .ok (.putfield 216, 3) := by decide +kernel
theorem dX6_begins_10 : decode cX6_begins 10 = .ok (.aload_n 0, 1) := by decide +kernel
theorem dX6_begins_11 : decode cX6_begins 11 = .ok (.iload_n 1, 1) := by decide +kernel
theorem dX6_begins_12 : decode cX6_begins 12 = .ok (.putfield 187, 3) := by decide +kernel
theorem dX6_begins_15 : decode cX6_begins 15 = .ok (.aload_n 0, 1) := by decide +kernel
theorem dX6_begins_16 : decode cX6_begins 16 = .ok (.iconst (-1), 1) := by decide +kernel
theorem dX6_begins_17 : decode cX6_begins 17 = .ok (.putfield 196, 3) := by decide +kernel
theorem dX6_begins_20 : decode cX6_begins 20 = .ok (.return_, 1) := by decide +kernel
theorem dX6_isEvent_0 : decode cX6_isEvent 0 = .ok (.iload_n 1, 1) := by decide +kernel
theorem dX6_isEvent_1 : decode cX6_isEvent 1 = .ok (.ifCond .lt 15, 3) := by decide +kernel
theorem dX6_isEvent_4 : decode cX6_isEvent 4 = .ok (.iload_n 1, 1) := by decide +kernel
theorem dX6_isEvent_5 : decode cX6_isEvent 5 = .ok (.aload_n 0, 1) := by decide +kernel
theorem dX6_isEvent_6 : decode cX6_isEvent 6 = .ok (.getfield 151, 3) := by decide +kernel
theorem dX6_isEvent_9 : decode cX6_isEvent 9 = .ok (.if_icmp .ge 7, 3) := by decide +kernel
theorem dX6_isEvent_12 : decode cX6_isEvent 12 = .ok (.iconst 1, 1) := by decide +kernel
theorem dX6_isEvent_13 : decode cX6_isEvent 13 = .ok (.goto 4, 3) := by decide +kernel
theorem dX6_isEvent_16 : decode cX6_isEvent 16 = .ok (.iconst 0, 1) := by decide +kernel
theorem dX6_isEvent_17 : decode cX6_isEvent 17 = .ok (.ireturn, 1) := by decide +kernel
set_option maxRecDepth 20000 in
theorem ggX6_first_X6_isEvent : GoodIn wsX6_first wsX6_isEvent := goodIn_r _ [9, 10, 82, 83, 84, 85, 86, 87, 88, 89, 90, 91, 92, 93, 94, 95, 96, 97, 98, 99, 100, 101, 102, 103, 104, 105, 106, 107, 108, 109, 110, 111, 112, 113, 114, 115, 116, 117, 118, 119, 120, 121, 122, 123, 124] (by decide +kernel) (by decide +kernel)
set_option maxRecDepth 20000 in
theorem gX6_first_X6_isEvent : GoodIn wsX6_first (wsV RX6 228 RX6 yX6_isEvent wsX6_isEvent) := goodIn_app (goodIn_of _ (by decide +kernel)) ggX6_first_X6_isEvent
set_option maxRecDepth 20000 in
theorem ggX6_first_X6_takenAll : GoodIn wsX6_first wsX6_takenAll := goodIn_r _ [14, 15, 16, 82, 83, 84, 85, 86, 87, 88, 89, 90, 91, 92, 93, 94, 95, 96, 97, 98, 99, 100, 101, 102, 103, 104, 105, 106, 107, 108, 109, 110, 111, 112, 113, 114, 115, 116, 117, 118, 119, 120, 121, 122, 123, 124] (by decide +kernel) (by decide +kernel)
set_option maxRecDepth 20000 in
theorem gX6_first_X6_takenAll : GoodIn wsX6_first (wsV RX6 231 RX6 yX6_takenAll wsX6_takenAll) := goodIn_app (goodIn_of _ (by decide +kernel)) ggX6_first_X6_takenAll
set_option maxRecDepth 20000 in
theorem ggX6_first_X6_begins : GoodIn wsX6_first wsX6_begins := goodIn_r _ [20, 21, 2, 22, 23, 82, 83, 84, 85, 86, 87, 88, 89, 90, 91, 92, 93, 94, 95, 96, 97, 98, 99, 100, 101, 102, 103, 104, 105, 106, 107, 108, 109, 110, 111, 112, 113, 114, 115, 116, 117, 118, 119, 120, 121, 122, 123, 124] (by decide +kernel) (by decide +kernel)
set_option maxRecDepth 20000 in
theorem gX6_first_X6_begins : GoodIn wsX6_first (wsV RX6 235 RX6 yX6_begins wsX6_begins) := goodIn_app (goodIn_of _ (by decide +kernel)) ggX6_first_X6_begins
set_option maxRecDepth 20000 in
theorem ggX6_first_X6_walks : GoodIn wsX6_first wsX6_walks := goodIn_r _ [27, 3, 28, 10, 2, 29, 21, 30, 31, 32, 8, 33, 34, 35, 36, 15, 37, 38, 23, 39, 40, 41, 42, 22, 43, 44, 45, 46, 47, 48, 49, 50, 51, 52, 53, 54, 55, 56, 57, 58, 59, 60, 61, 62, 63, 64, 65, 66, 67, 68, 69, 70, 71, 72, 73, 74, 75, 76, 77, 78, 79, 80, 4, 81, 82, 83, 84, 85, 86, 87, 88, 89, 90, 91, 92, 93, 94, 95, 96, 97, 98, 99, 100, 101, 102, 103, 104, 105, 106, 107, 108, 109, 110, 111, 112, 113, 114, 115, 116, 117, 118, 119, 120, 121, 122, 123, 124] (by decide +kernel) (by decide +kernel)
set_option maxRecDepth 20000 in
theorem gX6_first_X6_walks : GoodIn wsX6_first (wsV RX6 238 RX6 yX6_walks wsX6_walks) := goodIn_app (goodIn_of _ (by decide +kernel)) ggX6_first_X6_walks
theorem dX6_first_0 : decode cX6_first 0 = .ok (.aload_n 0, 1) := by decide +kernel
theorem dX6_first_1 : decode cX6_first 1 = .ok (.iconst 0, 1) := by decide +kernel
theorem dX6_first_2 : decode cX6_first 2 = .ok (.putfield 98, 3) := by decide +kernel
theorem dX6_first_5 : decode cX6_first 5 = .ok (.aload_n 0, 1) := by decide +kernel
theorem dX6_first_6 : decode cX6_first 6 = .ok (.iload_n 1, 1) := by decide +kernel
theorem dX6_first_7 : decode cX6_first 7 = .ok (.invokevirtual 228, 3) := by decide +kernel
theorem dX6_first_10 : decode cX6_first 10 = .ok (.ifCond .ne 5, 3) := by decide +kernel
theorem dX6_first_13 : decode cX6_first 13 = .ok (.iconst (-1), 1) := by decide +kernel
theorem dX6_first_14 : decode cX6_first 14 = .ok (.ireturn, 1) := by decide +kernel
theorem dX6_first_15 : decode cX6_first 15 = .ok (.aload_n 0, 1) := by decide +kernel
theorem dX6_first_16 : decode cX6_first 16 = .ok (.aload_n 0, 1) := by decide +kernel
theorem dX6_first_17 : decode cX6_first 17 = .ok (.invokevirtual 231, 3) := by decide +kernel
theorem dX6_first_20 : decode cX6_first 20 = .ok (.invokevirtual 235, 3) := by decide +kernel
theorem dX6_first_23 : decode cX6_first 23 = .ok (.aload_n 0, 1) := by decide +kernel
theorem dX6_first_24 : decode cX6_first 24 = .ok (.iconst 1, 1) := by decide +kernel
theorem dX6_first_25 : decode cX6_first 25 = .ok (.invokevirtual 238, 3) := by decide +kernel
theorem dX6_first_28 : decode cX6_first 28 = .ok (.aload_n 0, 1) := by decide +kernel
theorem dX6_first_29 : decode cX6_first 29 = .ok (.getfield 216, 3) := by decide +kernel
theorem dX6_first_32 : decode cX6_first 32 = .ok (.ifCond .eq 8, 3) := by decide +kernel
theorem dX6_first_35 : decode cX6_first 35 = .ok (.bipush (-2), 2) := by decide +kernel
theorem dX6_first_37 : decode cX6_first 37 = .ok (.goto 20, 3) := by decide +kernel
theorem dX6_first_40 : decode cX6_first 40 = .ok (.aload_n 0, 1) := by decide +kernel
theorem dX6_first_41 : decode cX6_first 41 = .ok (.getfield 212, 3) := by decide +kernel
theorem dX6_first_44 : decode cX6_first 44 = .ok (.ifCond .eq 12, 3) := by decide +kernel
theorem dX6_first_47 : decode cX6_first 47 = .ok (.aload_n 0, 1) := by decide +kernel
theorem dX6_first_48 : decode cX6_first 48 = .ok (.getfield 77, 3) := by decide +kernel
theorem dX6_first_51 : decode cX6_first 51 = .ok (.iload_n 1, 1) := by decide +kernel
theorem dX6_first_52 : decode cX6_first 52 = .ok (.iaload, 1) := by decide +kernel
theorem dX6_first_53 : decode cX6_first 53 = .ok (.goto 4, 3) := by decide +kernel
theorem dX6_first_56 : decode cX6_first 56 = .ok (.iconst (-1), 1) := by decide +kernel
theorem dX6_first_57 : decode cX6_first 57 = .ok (.ireturn, 1) := by decide +kernel
set_option maxRecDepth 20000 in
theorem ggX6_last_X6_isEvent : GoodIn wsX6_last wsX6_isEvent := goodIn_r _ [9, 10, 82, 83, 84, 85, 86, 87, 88, 89, 90, 91, 92, 93, 94, 95, 96, 97, 98, 99, 100, 101, 102, 103, 104, 105, 106, 107, 108, 109, 110, 111, 112, 113, 114, 115, 116, 117, 118, 119, 120, 121, 122, 123, 124] (by decide +kernel) (by decide +kernel)
set_option maxRecDepth 20000 in
theorem gX6_last_X6_isEvent : GoodIn wsX6_last (wsV RX6 228 RX6 yX6_isEvent wsX6_isEvent) := goodIn_app (goodIn_of _ (by decide +kernel)) ggX6_last_X6_isEvent
set_option maxRecDepth 20000 in
theorem ggX6_last_X6_takenAll : GoodIn wsX6_last wsX6_takenAll := goodIn_r _ [14, 15, 16, 82, 83, 84, 85, 86, 87, 88, 89, 90, 91, 92, 93, 94, 95, 96, 97, 98, 99, 100, 101, 102, 103, 104, 105, 106, 107, 108, 109, 110, 111, 112, 113, 114, 115, 116, 117, 118, 119, 120, 121, 122, 123, 124] (by decide +kernel) (by decide +kernel)
set_option maxRecDepth 20000 in
theorem gX6_last_X6_takenAll : GoodIn wsX6_last (wsV RX6 231 RX6 yX6_takenAll wsX6_takenAll) := goodIn_app (goodIn_of _ (by decide +kernel)) ggX6_last_X6_takenAll
set_option maxRecDepth 20000 in
theorem ggX6_last_X6_begins : GoodIn wsX6_last wsX6_begins := goodIn_r _ [20, 21, 2, 22, 23, 82, 83, 84, 85, 86, 87, 88, 89, 90, 91, 92, 93, 94, 95, 96, 97, 98, 99, 100, 101, 102, 103, 104, 105, 106, 107, 108, 109, 110, 111, 112, 113, 114, 115, 116, 117, 118, 119, 120, 121, 122, 123, 124] (by decide +kernel) (by decide +kernel)
set_option maxRecDepth 20000 in
theorem gX6_last_X6_begins : GoodIn wsX6_last (wsV RX6 235 RX6 yX6_begins wsX6_begins) := goodIn_app (goodIn_of _ (by decide +kernel)) ggX6_last_X6_begins
set_option maxRecDepth 20000 in
theorem ggX6_last_X6_walks : GoodIn wsX6_last wsX6_walks := goodIn_r _ [27, 3, 28, 10, 2, 29, 21, 30, 31, 32, 8, 33, 34, 35, 36, 15, 37, 38, 23, 39, 40, 41, 42, 22, 43, 44, 45, 46, 47, 48, 49, 50, 51, 52, 53, 54, 55, 56, 57, 58, 59, 60, 61, 62, 63, 64, 65, 66, 67, 68, 69, 70, 71, 72, 73, 74, 75, 76, 77, 78, 79, 80, 81, 4, 82, 83, 84, 85, 86, 87, 88, 89, 90, 91, 92, 93, 94, 95, 96, 97, 98, 99, 100, 101, 102, 103, 104, 105, 106, 107, 108, 109, 110, 111, 112, 113, 114, 115, 116, 117, 118, 119, 120, 121, 122, 123, 124] (by decide +kernel) (by decide +kernel)
set_option maxRecDepth 20000 in
theorem gX6_last_X6_walks : GoodIn wsX6_last (wsV RX6 238 RX6 yX6_walks wsX6_walks) := goodIn_app (goodIn_of _ (by decide +kernel)) ggX6_last_X6_walks
theorem dX6_last_0 : decode cX6_last 0 = .ok (.aload_n 0, 1) := by decide +kernel
theorem dX6_last_1 : decode cX6_last 1 = .ok (.iconst 0, 1) := by decide +kernel
theorem dX6_last_2 : decode cX6_last 2 = .ok (.putfield 98, 3) := by decide +kernel
theorem dX6_last_5 : decode cX6_last 5 = .ok (.aload_n 0, 1) := by decide +kernel
theorem dX6_last_6 : decode cX6_last 6 = .ok (.iload_n 1, 1) := by decide +kernel
theorem dX6_last_7 : decode cX6_last 7 = .ok (.invokevirtual 228, 3) := by decide +kernel
theorem dX6_last_10 : decode cX6_last 10 = .ok (.ifCond .ne 5, 3) := by decide +kernel
theorem dX6_last_13 : decode cX6_last 13 = .ok (.iconst (-1), 1) := by decide +kernel
theorem dX6_last_14 : decode cX6_last 14 = .ok (.ireturn, 1) := by decide +kernel
theorem dX6_last_15 : decode cX6_last 15 = .ok (.aload_n 0, 1) := by decide +kernel
theorem dX6_last_16 : decode cX6_last 16 = .ok (.aload_n 0, 1) := by decide +kernel
theorem dX6_last_17 : decode cX6_last 17 = .ok (.invokevirtual 231, 3) := by decide +kernel
theorem dX6_last_20 : decode cX6_last 20 = .ok (.invokevirtual 235, 3) := by decide +kernel
theorem dX6_last_23 : decode cX6_last 23 = .ok (.aload_n 0, 1) := by decide +kernel
theorem dX6_last_24 : decode cX6_last 24 = .ok (.iconst 1, 1) := by decide +kernel
theorem dX6_last_25 : decode cX6_last 25 = .ok (.invokevirtual 238, 3) := by decide +kernel
theorem dX6_last_28 : decode cX6_last 28 = .ok (.aload_n 0, 1) := by decide +kernel
theorem dX6_last_29 : decode cX6_last 29 = .ok (.getfield 216, 3) := by decide +kernel
theorem dX6_last_32 : decode cX6_last 32 = .ok (.ifCond .eq 8, 3) := by decide +kernel
theorem dX6_last_35 : decode cX6_last 35 = .ok (.bipush (-2), 2) := by decide +kernel
theorem dX6_last_37 : decode cX6_last 37 = .ok (.goto 20, 3) := by decide +kernel
theorem dX6_last_40 : decode cX6_last 40 = .ok (.aload_n 0, 1) := by decide +kernel
theorem dX6_last_41 : decode cX6_last 41 = .ok (.getfield 212, 3) := by decide +kernel
theorem dX6_last_44 : decode cX6_last 44 = .ok (.ifCond .eq 12, 3) := by decide +kernel
theorem dX6_last_47 : decode cX6_last 47 = .ok (.aload_n 0, 1) := by decide +kernel
theorem dX6_last_48 : decode cX6_last 48 = .ok (.getfield 80, 3) := by decide +kernel
theorem dX6_last_51 : decode cX6_last 51 = .ok (.iload_n 1, 1) := by decide +kernel
theorem dX6_last_52 : decode cX6_last 52 = .ok (.iaload, 1) := by decide +kernel
theorem dX6_last_53 : decode cX6_last 53 = .ok (.goto 4, 3) := by decide +kernel
theorem dX6_last_56 : decode cX6_last 56 = .ok (.iconst (-1), 1) := by decide +kernel
theorem dX6_last_57 : decode cX6_last 57 = .ok (.ireturn, 1) := by decide +kernel
set_option maxRecDepth 20000 in
theorem ggX6_can_X6_isEvent : GoodIn wsX6_can wsX6_isEvent := goodIn_r _ [10, 11, 86, 87, 88, 89, 90, 91, 92, 93, 94, 95, 96, 97, 98, 99, 100, 101, 102, 103, 104, 105, 106, 107, 108, 109, 110, 111, 112, 113, 114, 115, 116, 117, 118, 119, 120, 121, 122, 123, 124, 125, 126, 127, 128] (by decide +kernel) (by decide +kernel)
set_option maxRecDepth 20000 in
theorem gX6_can_X6_isEvent : GoodIn wsX6_can (wsV RX6 228 RX6 yX6_isEvent wsX6_isEvent) := goodIn_app (goodIn_of _ (by decide +kernel)) ggX6_can_X6_isEvent
set_option maxRecDepth 20000 in
theorem ggX6_can_X6_isDay : GoodIn wsX6_can wsX6_isDay := goodIn_r _ [14, 15] (by decide +kernel) (by decide +kernel)
set_option maxRecDepth 20000 in
theorem gX6_can_X6_isDay : GoodIn wsX6_can (va_wsS RX6 124 yX6_isDay wsX6_isDay) := goodIn_app (goodIn_of _ (by decide +kernel)) ggX6_can_X6_isDay
set_option maxRecDepth 20000 in
theorem ggX6_can_X6_takenAll : GoodIn wsX6_can wsX6_takenAll := goodIn_r _ [19, 20, 21, 86, 87, 88, 89, 90, 91, 92, 93, 94, 95, 96, 97, 98, 99, 100, 101, 102, 103, 104, 105, 106, 107, 108, 109, 110, 111, 112, 113, 114, 115, 116, 117, 118, 119, 120, 121, 122, 123, 124, 125, 126, 127, 128] (by decide +kernel) (by decide +kernel)
set_option maxRecDepth 20000 in
theorem gX6_can_X6_takenAll : GoodIn wsX6_can (wsV RX6 231 RX6 yX6_takenAll wsX6_takenAll) := goodIn_app (goodIn_of _ (by decide +kernel)) ggX6_can_X6_takenAll
set_option maxRecDepth 20000 in
theorem ggX6_can_X6_begins : GoodIn wsX6_can wsX6_begins := goodIn_r _ [25, 26, 4, 27, 2, 86, 87, 88, 89, 90, 91, 92, 93, 94, 95, 96, 97, 98, 99, 100, 101, 102, 103, 104, 105, 106, 107, 108, 109, 110, 111, 112, 113, 114, 115, 116, 117, 118, 119, 120, 121, 122, 123, 124, 125, 126, 127, 128] (by decide +kernel) (by decide +kernel)
set_option maxRecDepth 20000 in
theorem gX6_can_X6_begins : GoodIn wsX6_can (wsV RX6 235 RX6 yX6_begins wsX6_begins) := goodIn_app (goodIn_of _ (by decide +kernel)) ggX6_can_X6_begins
set_option maxRecDepth 20000 in
theorem ggX6_can_X6_walks : GoodIn wsX6_can wsX6_walks := goodIn_r _ [31, 5, 32, 11, 4, 33, 26, 34, 35, 36, 9, 37, 38, 39, 40, 20, 41, 42, 2, 43, 44, 45, 46, 27, 47, 48, 49, 50, 51, 52, 53, 54, 55, 56, 57, 58, 59, 60, 61, 62, 63, 64, 65, 66, 3, 67, 68, 69, 70, 71, 72, 73, 74, 75, 76, 77, 78, 79, 80, 81, 82, 83, 84, 85, 86, 87, 88, 89, 90, 91, 92, 93, 94, 95, 96, 97, 98, 99, 100, 101, 102, 103, 104, 105, 106, 107, 108, 109, 110, 111, 112, 113, 114, 115, 116, 117, 118, 119, 120, 121, 122, 123, 124, 125, 126, 127, 128] (by decide +kernel) (by decide +kernel)
set_option maxRecDepth 20000 in
theorem gX6_can_X6_walks : GoodIn wsX6_can (wsV RX6 238 RX6 yX6_walks wsX6_walks) := goodIn_app (goodIn_of _ (by decide +kernel)) ggX6_can_X6_walks
theorem dX6_can_0 : decode cX6_can 0 = .ok (.aload_n 0, 1) := by decide +kernel
theorem dX6_can_1 : decode cX6_can 1 = .ok (.iconst 0, 1) := by decide +kernel
theorem dX6_can_2 : decode cX6_can 2 = .ok (.putfield 98, 3) := by decide +kernel
theorem dX6_can_5 : decode cX6_can 5 = .ok (.aload_n 0, 1) := by decide +kernel
theorem dX6_can_6 : decode cX6_can 6 = .ok (.iload_n 1, 1) := by decide +kernel
theorem dX6_can_7 : decode cX6_can 7 = .ok (.invokevirtual 228, 3) := by decide +kernel
theorem dX6_can_10 : decode cX6_can 10 = .ok (.ifCond .eq 10, 3) := by decide +kernel
theorem dX6_can_13 : decode cX6_can 13 = .ok (.iload_n 2, 1) := by decide +kernel
theorem dX6_can_14 : decode cX6_can 14 = .ok (.invokestatic 124, 3) := by decide +kernel
theorem dX6_can_17 : decode cX6_can 17 = .ok (.ifCond .ne 5, 3) := by decide +kernel
theorem dX6_can_20 : decode cX6_can 20 = .ok (.iconst (-1), 1) := by decide +kernel
theorem dX6_can_21 : decode cX6_can 21 = .ok (.ireturn, 1) := by decide +kernel
theorem dX6_can_22 : decode cX6_can 22 = .ok (.aload_n 0, 1) := by decide +kernel
theorem dX6_can_23 : decode cX6_can 23 = .ok (.aload_n 0, 1) := by decide +kernel
theorem dX6_can_24 : decode cX6_can 24 = .ok (.invokevirtual 231, 3) := by decide +kernel
theorem dX6_can_27 : decode cX6_can 27 = .ok (.invokevirtual 235, 3) := by decide +kernel
theorem dX6_can_30 : decode cX6_can 30 = .ok (.aload_n 0, 1) := by decide +kernel
theorem dX6_can_31 : decode cX6_can 31 = .ok (.iload_n 1, 1) := by decide +kernel
theorem dX6_can_32 : decode cX6_can 32 = .ok (.putfield 196, 3) := by decide +kernel
theorem dX6_can_35 : decode cX6_can 35 = .ok (.aload_n 0, 1) := by decide +kernel
theorem dX6_can_36 : decode cX6_can 36 = .ok (.iload_n 2, 1) := by decide +kernel
theorem dX6_can_37 : decode cX6_can 37 = .ok (.putfield 203, 3) := by decide +kernel
theorem dX6_can_40 : decode cX6_can 40 = .ok (.aload_n 0, 1) := by decide +kernel
theorem dX6_can_41 : decode cX6_can 41 = .ok (.iconst 0, 1) := by decide +kernel
theorem dX6_can_42 : decode cX6_can 42 = .ok (.invokevirtual 238, 3) := by decide +kernel
theorem dX6_can_45 : decode cX6_can 45 = .ok (.aload_n 0, 1) := by decide +kernel
theorem dX6_can_46 : decode cX6_can 46 = .ok (.getfield 216, 3) := by decide +kernel
theorem dX6_can_49 : decode cX6_can 49 = .ok (.ifCond .eq 8, 3) := by decide +kernel
theorem dX6_can_52 : decode cX6_can 52 = .ok (.bipush (-2), 2) := by decide +kernel
theorem dX6_can_54 : decode cX6_can 54 = .ok (.goto 15, 3) := by decide +kernel
theorem dX6_can_57 : decode cX6_can 57 = .ok (.aload_n 0, 1) := by decide +kernel
theorem dX6_can_58 : decode cX6_can 58 = .ok (.getfield 212, 3) := by decide +kernel
theorem dX6_can_61 : decode cX6_can 61 = .ok (.ifCond .eq 7, 3) := by decide +kernel
theorem dX6_can_64 : decode cX6_can 64 = .ok (.iconst 1, 1) := by decide +kernel
theorem dX6_can_65 : decode cX6_can 65 = .ok (.goto 4, 3) := by decide +kernel
theorem dX6_can_68 : decode cX6_can 68 = .ok (.iconst 0, 1) := by decide +kernel
theorem dX6_can_69 : decode cX6_can 69 = .ok (.ireturn, 1) := by decide +kernel
set_option maxRecDepth 20000 in
theorem ggX6_agrees_X6_takenAll : GoodIn wsX6_agrees wsX6_takenAll := goodIn_r _ [8, 9, 10, 78, 79, 80, 81, 82, 83, 84, 85, 86, 87, 88, 89, 90, 91, 92, 93, 94, 95, 96, 97, 98, 99, 100, 101, 102, 103, 104, 105, 106, 107, 108, 109, 110, 111, 112, 113, 114, 115, 116, 117, 118, 119, 120] (by decide +kernel) (by decide +kernel)
set_option maxRecDepth 20000 in
theorem gX6_agrees_X6_takenAll : GoodIn wsX6_agrees (wsV RX6 231 RX6 yX6_takenAll wsX6_takenAll) := goodIn_app (goodIn_of _ (by decide +kernel)) ggX6_agrees_X6_takenAll
set_option maxRecDepth 20000 in
theorem ggX6_agrees_X6_begins : GoodIn wsX6_agrees wsX6_begins := goodIn_r _ [14, 15, 2, 16, 17, 78, 79, 80, 81, 82, 83, 84, 85, 86, 87, 88, 89, 90, 91, 92, 93, 94, 95, 96, 97, 98, 99, 100, 101, 102, 103, 104, 105, 106, 107, 108, 109, 110, 111, 112, 113, 114, 115, 116, 117, 118, 119, 120] (by decide +kernel) (by decide +kernel)
set_option maxRecDepth 20000 in
theorem gX6_agrees_X6_begins : GoodIn wsX6_agrees (wsV RX6 235 RX6 yX6_begins wsX6_begins) := goodIn_app (goodIn_of _ (by decide +kernel)) ggX6_agrees_X6_begins
set_option maxRecDepth 20000 in
theorem ggX6_agrees_X6_walks : GoodIn wsX6_agrees wsX6_walks := goodIn_r _ [21, 3, 22, 23, 2, 24, 15, 25, 26, 27, 7, 28, 29, 30, 31, 9, 32, 33, 17, 34, 35, 36, 37, 16, 38, 39, 40, 41, 42, 43, 44, 45, 46, 47, 48, 49, 50, 51, 52, 53, 54, 55, 56, 57, 58, 59, 60, 61, 62, 63, 64, 65, 66, 67, 68, 69, 70, 71, 72, 73, 74, 75, 76, 77, 78, 79, 80, 81, 82, 83, 84, 85, 86, 87, 88, 89, 90, 91, 92, 93, 94, 95, 96, 97, 98, 99, 100, 101, 102, 103, 104, 105, 106, 107, 108, 109, 110, 111, 112, 113, 114, 115, 116, 117, 118, 119, 120] (by decide +kernel) (by decide +kernel)
set_option maxRecDepth 20000 in
theorem gX6_agrees_X6_walks : GoodIn wsX6_agrees (wsV RX6 238 RX6 yX6_walks wsX6_walks) := goodIn_app (goodIn_of _ (by decide +kernel)) ggX6_agrees_X6_walks
theorem dX6_agrees_0 : decode cX6_agrees 0 = .ok (.aload_n 0, 1) := by decide +kernel
theorem dX6_agrees_1 : decode cX6_agrees 1 = .ok (.iconst 0, 1) := by decide +kernel
theorem dX6_agrees_2 : decode cX6_agrees 2 = .ok (.putfield 98, 3) := by decide +kernel
theorem dX6_agrees_5 : decode cX6_agrees 5 = .ok (.aload_n 0, 1) := by decide +kernel
theorem dX6_agrees_6 : decode cX6_agrees 6 = .ok (.aload_n 0, 1) := by decide +kernel
theorem dX6_agrees_7 : decode cX6_agrees 7 = .ok (.invokevirtual 231, 3) := by decide +kernel
theorem dX6_agrees_10 : decode cX6_agrees 10 = .ok (.invokevirtual 235, 3) := by decide +kernel
theorem dX6_agrees_13 : decode cX6_agrees 13 = .ok (.aload_n 0, 1) := by decide +kernel
theorem dX6_agrees_14 : decode cX6_agrees 14 = .ok (.iconst 0, 1) := by decide +kernel
theorem dX6_agrees_15 : decode cX6_agrees 15 = .ok (.invokevirtual 238, 3) := by decide +kernel
theorem dX6_agrees_18 : decode cX6_agrees 18 = .ok (.aload_n 0, 1) := by decide +kernel
theorem dX6_agrees_19 : decode cX6_agrees 19 = .ok (.getfield 216, 3) := by decide +kernel
theorem dX6_agrees_22 : decode cX6_agrees 22 = .ok (.ifCond .eq 8, 3) := by decide +kernel
theorem dX6_agrees_25 : decode cX6_agrees 25 = .ok (.bipush (-2), 2) := by decide +kernel
theorem dX6_agrees_27 : decode cX6_agrees 27 = .ok (.goto 15, 3) := by decide +kernel
theorem dX6_agrees_30 : decode cX6_agrees 30 = .ok (.aload_n 0, 1) := by decide +kernel
theorem dX6_agrees_31 : decode cX6_agrees 31 = .ok (.getfield 212, 3) := by decide +kernel
theorem dX6_agrees_34 : decode cX6_agrees 34 = .ok (.ifCond .eq 7, 3) := by decide +kernel
theorem dX6_agrees_37 : decode cX6_agrees 37 = .ok (.iconst 1, 1) := by decide +kernel
theorem dX6_agrees_38 : decode cX6_agrees 38 = .ok (.goto 4, 3) := by decide +kernel
theorem dX6_agrees_41 : decode cX6_agrees 41 = .ok (.iconst 0, 1) := by decide +kernel
theorem dX6_agrees_42 : decode cX6_agrees 42 = .ok (.ireturn, 1) := by decide +kernel
theorem dX6_bitsOf_0 : decode cX6_bitsOf 0 = .ok (.iconst 0, 1) := by decide +kernel
theorem dX6_bitsOf_1 : decode cX6_bitsOf 1 = .ok (.istore_n 1, 1) := by decide +kernel
theorem dX6_bitsOf_2 : decode cX6_bitsOf 2 = .ok (.iload_n 0, 1) := by decide +kernel
theorem dX6_bitsOf_3 : decode cX6_bitsOf 3 = .ok (.istore_n 2, 1) := by decide +kernel
theorem dX6_bitsOf_4 : decode cX6_bitsOf 4 = .ok (.iload_n 2, 1) := by decide +kernel
theorem dX6_bitsOf_5 : decode cX6_bitsOf 5 = .ok (.ifCond .le 16, 3) := by decide +kernel
theorem dX6_bitsOf_8 : decode cX6_bitsOf 8 = .ok (.iload_n 1, 1) := by decide +kernel
theorem dX6_bitsOf_9 : decode cX6_bitsOf 9 = .ok (.iload_n 2, 1) := by decide +kernel
theorem dX6_bitsOf_10 : decode cX6_bitsOf 10 = .ok (.iconst 1, 1) := by decide +kernel
theorem dX6_bitsOf_11 : decode cX6_bitsOf 11 = .ok (.iand, 1) := by decide +kernel
theorem dX6_bitsOf_12 : decode cX6_bitsOf 12 = .ok (.iadd, 1) := by decide +kernel
theorem dX6_bitsOf_13 : decode cX6_bitsOf 13 = .ok (.istore_n 1, 1) := by decide +kernel
theorem dX6_bitsOf_14 : decode cX6_bitsOf 14 = .ok (.iload_n 2, 1) := by decide +kernel
theorem dX6_bitsOf_15 : decode cX6_bitsOf 15 = .ok (.iconst 1, 1) := by decide +kernel
theorem dX6_bitsOf_16 : decode cX6_bitsOf 16 = .ok (.ishr, 1) := by decide +kernel
theorem dX6_bitsOf_17 : decode cX6_bitsOf 17 = .ok (.istore_n 2, 1) := by decide +kernel
theorem dX6_bitsOf_18 : decode cX6_bitsOf 18 = .ok (.goto (-14), 3) := by decide +kernel
theorem dX6_bitsOf_21 : decode cX6_bitsOf 21 = .ok (.iload_n 1, 1) := by decide +kernel
theorem dX6_bitsOf_22 : decode cX6_bitsOf 22 = .ok (.ireturn, 1) := by decide +kernel
theorem dX6_isAhead_0 : decode cX6_isAhead 0 = .ok (.iload_n 0, 1) := by decide +kernel
theorem dX6_isAhead_1 : decode cX6_isAhead 1 = .ok (.iload_n 1, 1) := by decide +kernel
theorem dX6_isAhead_2 : decode cX6_isAhead 2 = .ok (.ixor, 1) := by decide +kernel
theorem dX6_isAhead_3 : decode cX6_isAhead 3 = .ok (.istore_n 2, 1) := by decide +kernel
theorem dX6_isAhead_4 : decode cX6_isAhead 4 = .ok (.iload_n 0, 1) := by decide +kernel
theorem dX6_isAhead_5 : decode cX6_isAhead 5 = .ok (.iload_n 2, 1) := by decide +kernel
theorem dX6_isAhead_6 : decode cX6_isAhead 6 = .ok (.iand, 1) := by decide +kernel
theorem dX6_isAhead_7 : decode cX6_isAhead 7 = .ok (.iload_n 2, 1) := by decide +kernel
theorem dX6_isAhead_8 : decode cX6_isAhead 8 = .ok (.ineg, 1) := by decide +kernel
theorem dX6_isAhead_9 : decode cX6_isAhead 9 = .ok (.iand, 1) := by decide +kernel
theorem dX6_isAhead_10 : decode cX6_isAhead 10 = .ok (.ifCond .eq 7, 3) := by decide +kernel
theorem dX6_isAhead_13 : decode cX6_isAhead 13 = .ok (.iconst 1, 1) := by decide +kernel
theorem dX6_isAhead_14 : decode cX6_isAhead 14 = .ok (.goto 4, 3) := by decide +kernel
theorem dX6_isAhead_17 : decode cX6_isAhead 17 = .ok (.iconst 0, 1) := by decide +kernel
theorem dX6_isAhead_18 : decode cX6_isAhead 18 = .ok (.ireturn, 1) := by decide +kernel
set_option maxRecDepth 20000 in
theorem ggX6_quarrel_X6_takenAll : GoodIn wsX6_quarrel wsX6_takenAll := goodIn_r _ [9, 10, 11, 88, 89, 90, 91, 92, 93, 94, 95, 96, 97, 98, 99, 100, 101, 102, 103, 104, 105, 106, 107, 108, 109, 110, 111, 112, 113, 114, 115, 116, 117, 118, 119, 120, 121, 122, 123, 124, 125, 126, 127, 128, 129, 130] (by decide +kernel) (by decide +kernel)
set_option maxRecDepth 20000 in
theorem gX6_quarrel_X6_takenAll : GoodIn wsX6_quarrel (wsV RX6 231 RX6 yX6_takenAll wsX6_takenAll) := goodIn_app (goodIn_of _ (by decide +kernel)) ggX6_quarrel_X6_takenAll
set_option maxRecDepth 20000 in
theorem ggX6_quarrel_X6_begins : GoodIn wsX6_quarrel wsX6_begins := goodIn_r _ [15, 16, 2, 4, 17, 88, 89, 90, 91, 92, 93, 94, 95, 96, 97, 98, 99, 100, 101, 102, 103, 104, 105, 106, 107, 108, 109, 110, 111, 112, 113, 114, 115, 116, 117, 118, 119, 120, 121, 122, 123, 124, 125, 126, 127, 128, 129, 130] (by decide +kernel) (by decide +kernel)
set_option maxRecDepth 20000 in
theorem gX6_quarrel_X6_begins : GoodIn wsX6_quarrel (wsV RX6 235 RX6 yX6_begins wsX6_begins) := goodIn_app (goodIn_of _ (by decide +kernel)) ggX6_quarrel_X6_begins
set_option maxRecDepth 20000 in
theorem ggX6_quarrel_X6_walks : GoodIn wsX6_quarrel wsX6_walks := goodIn_r _ [21, 3, 22, 23, 2, 24, 16, 25, 26, 27, 8, 28, 29, 30, 31, 10, 32, 33, 17, 34, 35, 36, 37, 4, 38, 39, 40, 41, 42, 43, 44, 45, 46, 47, 48, 49, 50, 51, 52, 53, 54, 55, 56, 57, 58, 59, 60, 61, 62, 63, 64, 65, 66, 67, 68, 69, 70, 71, 72, 73, 74, 75, 76, 77, 88, 89, 90, 91, 92, 93, 94, 95, 96, 97, 98, 99, 100, 101, 102, 103, 104, 105, 106, 107, 108, 109, 110, 111, 112, 113, 114, 115, 116, 117, 118, 119, 120, 121, 122, 123, 124, 125, 126, 127, 128, 129, 130] (by decide +kernel) (by decide +kernel)
set_option maxRecDepth 20000 in
theorem gX6_quarrel_X6_walks : GoodIn wsX6_quarrel (wsV RX6 238 RX6 yX6_walks wsX6_walks) := goodIn_app (goodIn_of _ (by decide +kernel)) ggX6_quarrel_X6_walks
set_option maxRecDepth 20000 in
theorem ggX6_quarrel_X6_nextOf : GoodIn wsX6_quarrel wsX6_nextOf := goodIn_r _ [81, 10, 82, 83, 8, 84, 85, 86, 87, 88, 89, 90, 91, 92, 93, 94, 95, 96, 97, 98, 99, 100, 101, 102, 103, 104, 105, 106, 107, 108, 109, 110, 111, 112, 113, 114, 115, 116, 117, 118, 119, 120, 121, 122, 123, 124, 125, 126, 127, 128, 129, 130] (by decide +kernel) (by decide +kernel)
set_option maxRecDepth 20000 in
theorem gX6_quarrel_X6_nextOf : GoodIn wsX6_quarrel (wsV RX6 242 RX6 yX6_nextOf wsX6_nextOf) := goodIn_app (goodIn_of _ (by decide +kernel)) ggX6_quarrel_X6_nextOf
theorem dX6_quarrel_0 : decode cX6_quarrel 0 = .ok (.aload_n 0, 1) := by decide +kernel
theorem dX6_quarrel_1 : decode cX6_quarrel 1 = .ok (.iconst 0, 1) := by decide +kernel
theorem dX6_quarrel_2 : decode cX6_quarrel 2 = .ok (.putfield 98, 3) := by decide +kernel
theorem dX6_quarrel_5 : decode cX6_quarrel 5 = .ok (.aload_n 0, 1) := by decide +kernel
theorem dX6_quarrel_6 : decode cX6_quarrel 6 = .ok (.invokevirtual 231, 3) := by decide +kernel
theorem dX6_quarrel_9 : decode cX6_quarrel 9 = .ok (.istore_n 1, 1) := by decide +kernel
theorem dX6_quarrel_10 : decode cX6_quarrel 10 = .ok (.aload_n 0, 1) := by decide +kernel
theorem dX6_quarrel_11 : decode cX6_quarrel 11 = .ok (.iload_n 1, 1) := by decide +kernel
theorem dX6_quarrel_12 : decode cX6_quarrel 12 = .ok (.invokevirtual 235, 3) := by decide +kernel
theorem dX6_quarrel_15 : decode cX6_quarrel 15 = .ok (.aload_n 0, 1) := by decide +kernel
theorem dX6_quarrel_16 : decode cX6_quarrel 16 = .ok (.iconst 0, 1) := by decide +kernel
theorem dX6_quarrel_17 : decode cX6_quarrel 17 = .ok (.invokevirtual 238, 3) := by decide +kernel
theorem dX6_quarrel_20 : decode cX6_quarrel 20 = .ok (.aload_n 0, 1) := by decide +kernel
theorem dX6_quarrel_21 : decode cX6_quarrel 21 = .ok (.getfield 216, 3) := by decide +kernel
theorem dX6_quarrel_24 : decode cX6_quarrel 24 = .ok (.ifCond .eq 6, 3) := by decide +kernel
theorem dX6_quarrel_27 : decode cX6_quarrel 27 = .ok (.bipush (-2), 2) := by decide +kernel
theorem dX6_quarrel_29 : decode cX6_quarrel 29 = .ok (.ireturn, 1) := by decide +kernel
theorem dX6_quarrel_30 : decode cX6_quarrel 30 = .ok (.aload_n 0, 1) := by decide +kernel
theorem dX6_quarrel_31 : decode cX6_quarrel 31 = .ok (.getfield 212, 3) := by decide +kernel
theorem dX6_quarrel_34 : decode cX6_quarrel 34 = .ok (.ifCond .eq 5, 3) := by decide +kernel
theorem dX6_quarrel_37 : decode cX6_quarrel 37 = .ok (.iconst 0, 1) := by decide +kernel
theorem dX6_quarrel_38 : decode cX6_quarrel 38 = .ok (.ireturn, 1) := by decide +kernel
theorem dX6_quarrel_39 : decode cX6_quarrel 39 = .ok (.iconst 1, 1) := by decide +kernel
theorem dX6_quarrel_40 : decode cX6_quarrel 40 = .ok (.istore_n 2, 1) := by decide +kernel
theorem dX6_quarrel_41 : decode cX6_quarrel 41 = .ok (.iload_n 2, 1) := by decide +kernel
theorem dX6_quarrel_42 : decode cX6_quarrel 42 = .ok (.bipush 12, 2) := by decide +kernel
theorem dX6_quarrel_44 : decode cX6_quarrel 44 = .ok (.if_icmp .gt 61, 3) := by decide +kernel
theorem dX6_quarrel_47 : decode cX6_quarrel 47 = .ok (.aload_n 0, 1) := by decide +kernel
theorem dX6_quarrel_48 : decode cX6_quarrel 48 = .ok (.iload_n 1, 1) := by decide +kernel
theorem dX6_quarrel_49 : decode cX6_quarrel 49 = .ok (.iload_n 2, 1) := by decide +kernel
theorem dX6_quarrel_50 : decode cX6_quarrel 50 = .ok (.iconst 0, 1) := by decide +kernel
theorem dX6_quarrel_51 : decode cX6_quarrel 51 = .ok (.invokevirtual 242, 3) := by decide +kernel
theorem dX6_quarrel_54 : decode cX6_quarrel 54 = .ok (.istore_n 3, 1) := by decide +kernel
theorem dX6_quarrel_55 : decode cX6_quarrel 55 = .ok (.iload_n 3, 1) := by decide +kernel
theorem dX6_quarrel_56 : decode cX6_quarrel 56 = .ok (.ifCond .eq 43, 3) := by decide +kernel
theorem dX6_quarrel_59 : decode cX6_quarrel 59 = .ok (.aload_n 0, 1) := by decide +kernel
theorem dX6_quarrel_60 : decode cX6_quarrel 60 = .ok (.iload_n 3, 1) := by decide +kernel
theorem dX6_quarrel_61 : decode cX6_quarrel 61 = .ok (.putfield 187, 3) := by decide +kernel
theorem dX6_quarrel_64 : decode cX6_quarrel 64 = .ok (.aload_n 0, 1) := by decide +kernel
theorem dX6_quarrel_65 : decode cX6_quarrel 65 = .ok (.iconst 0, 1) := by decide +kernel
theorem dX6_quarrel_66 : decode cX6_quarrel 66 = .ok (.invokevirtual 238, 3) := by decide +kernel
theorem dX6_quarrel_69 : decode cX6_quarrel 69 = .ok (.aload_n 0, 1) := by decide +kernel
theorem dX6_quarrel_70 : decode cX6_quarrel 70 = .ok (.getfield 216, 3) := by decide +kernel
theorem dX6_quarrel_73 : decode cX6_quarrel 73 = .ok (.ifCond .eq 6, 3) := by decide +kernel
theorem dX6_quarrel_76 : decode cX6_quarrel 76 = .ok (.bipush (-2), 2) := by decide +kernel
theorem dX6_quarrel_78 : decode cX6_quarrel 78 = .ok (.ireturn, 1) := by decide +kernel
theorem dX6_quarrel_79 : decode cX6_quarrel 79 = .ok (.aload_n 0, 1) := by decide +kernel
theorem dX6_quarrel_80 : decode cX6_quarrel 80 = .ok (.getfield 212, 3) := by decide +kernel
theorem dX6_quarrel_83 : decode cX6_quarrel 83 = .ok (.ifCond .ne 5, 3) := by decide +kernel
theorem dX6_quarrel_86 : decode cX6_quarrel 86 = .ok (.iload_n 3, 1) := by decide +kernel
theorem dX6_quarrel_87 : decode cX6_quarrel 87 = .ok (.ireturn, 1) := by decide +kernel
theorem dX6_quarrel_88 : decode cX6_quarrel 88 = .ok (.aload_n 0, 1) := by decide +kernel
theorem dX6_quarrel_89 : decode cX6_quarrel 89 = .ok (.iload_n 1, 1) := by decide +kernel
theorem dX6_quarrel_90 : decode cX6_quarrel 90 = .ok (.iload_n 2, 1) := by decide +kernel
theorem dX6_quarrel_91 : decode cX6_quarrel 91 = .ok (.iload_n 3, 1) := by decide +kernel
theorem dX6_quarrel_92 : decode cX6_quarrel 92 = .ok (.invokevirtual 242, 3) := by decide +kernel
theorem dX6_quarrel_95 : decode cX6_quarrel 95 = .ok (.istore_n 3, 1) := by decide +kernel
theorem dX6_quarrel_96 : decode cX6_quarrel 96 = .ok (.goto (-41), 3) := by decide +kernel
theorem dX6_quarrel_99 : decode cX6_quarrel 99 = .ok (.iinc 2 1, 3) := by decide +kernel
theorem dX6_quarrel_102 : decode cX6_quarrel 102 = .ok (.goto (-61), 3) := by decide +kernel
theorem dX6_quarrel_105 : decode cX6_quarrel 105 = .ok (.iconst 0, 1) := by decide +kernel
theorem dX6_quarrel_106 : decode cX6_quarrel 106 = .ok (.ireturn, 1) := by decide +kernel
set_option maxRecDepth 20000 in
theorem ggX6_nextOf_X6_bitsOf : GoodIn wsX6_nextOf wsX6_bitsOf := goodIn_r _ [5] (by decide +kernel) (by decide +kernel)
set_option maxRecDepth 20000 in
theorem gX6_nextOf_X6_bitsOf : GoodIn wsX6_nextOf (va_wsS RX6 245 yX6_bitsOf wsX6_bitsOf) := goodIn_app (goodIn_of _ (by decide +kernel)) ggX6_nextOf_X6_bitsOf
set_option maxRecDepth 20000 in
theorem ggX6_nextOf_X6_isAhead : GoodIn wsX6_nextOf wsX6_isAhead := goodIn_r _ [8] (by decide +kernel) (by decide +kernel)
set_option maxRecDepth 20000 in
theorem gX6_nextOf_X6_isAhead : GoodIn wsX6_nextOf (va_wsS RX6 248 yX6_isAhead wsX6_isAhead) := goodIn_app (goodIn_of _ (by decide +kernel)) ggX6_nextOf_X6_isAhead
theorem dX6_nextOf_0 : decode cX6_nextOf 0 = .ok (.iconst 0, 1) := by decide +kernel
theorem dX6_nextOf_1 : decode cX6_nextOf 1 = .ok (.istore 4, 2) := by decide +kernel
theorem dX6_nextOf_3 : decode cX6_nextOf 3 = .ok (.iconst 1, 1) := by decide +kernel
theorem dX6_nextOf_4 : decode cX6_nextOf 4 = .ok (.istore 5, 2) := by decide +kernel
theorem dX6_nextOf_6 : decode cX6_nextOf 6 = .ok (.iload 5, 2) := by decide +kernel
theorem dX6_nextOf_8 : decode cX6_nextOf 8 = .ok (.iconst 1, 1) := by decide +kernel
theorem dX6_nextOf_9 : decode cX6_nextOf 9 = .ok (.aload_n 0, 1) := by decide +kernel
theorem dX6_nextOf_10 : decode cX6_nextOf 10 = .ok (.getfield 158, 3) := by decide +kernel
theorem dX6_nextOf_13 : decode cX6_nextOf 13 = .ok (.ishl, 1) := by decide +kernel
theorem dX6_nextOf_14 : decode cX6_nextOf 14 = .ok (.if_icmp .ge 68, 3) := by decide +kernel
theorem dX6_nextOf_17 : decode cX6_nextOf 17 = .ok (.iload 5, 2) := by decide +kernel
theorem dX6_nextOf_19 : decode cX6_nextOf 19 = .ok (.iload_n 1, 1) := by decide +kernel
theorem dX6_nextOf_20 : decode cX6_nextOf 20 = .ok (.iconst (-1), 1) := by decide +kernel
theorem dX6_nextOf_21 : decode cX6_nextOf 21 = .ok (.ixor, 1) := by decide +kernel
theorem dX6_nextOf_22 : decode cX6_nextOf 22 = .ok (.iand, 1) := by decide +kernel
theorem dX6_nextOf_23 : decode cX6_nextOf 23 = .ok (.ifCond .ne 53, 3) := by decide +kernel
theorem dX6_nextOf_26 : decode cX6_nextOf 26 = .ok (.iload 5, 2) := by decide +kernel
theorem dX6_nextOf_28 : decode cX6_nextOf 28 = .ok (.invokestatic 245, 3) := by decide +kernel
theorem dX6_nextOf_31 : decode cX6_nextOf 31 = .ok (.iload_n 2, 1) := by decide +kernel
theorem dX6_nextOf_32 : decode cX6_nextOf 32 = .ok (.if_icmp .ne 44, 3) := by decide +kernel
theorem dX6_nextOf_35 : decode cX6_nextOf 35 = .ok (.iload_n 3, 1) := by decide +kernel
theorem dX6_nextOf_36 : decode cX6_nextOf 36 = .ok (.ifCond .eq 12, 3) := by decide +kernel
theorem dX6_nextOf_39 : decode cX6_nextOf 39 = .ok (.iload_n 3, 1) := by decide +kernel
theorem dX6_nextOf_40 : decode cX6_nextOf 40 = .ok (.iload 5, 2) := by decide +kernel
theorem dX6_nextOf_42 : decode cX6_nextOf 42 = .ok (.invokestatic 248, 3) := by decide +kernel
theorem dX6_nextOf_45 : decode cX6_nextOf 45 = .ok (.ifCond .eq 31, 3) := by decide +kernel
theorem dX6_nextOf_48 : decode cX6_nextOf 48 = .ok (.iload_n 3, 1) := by decide +kernel
theorem dX6_nextOf_49 : decode cX6_nextOf 49 = .ok (.iload 5, 2) := by decide +kernel
theorem dX6_nextOf_51 : decode cX6_nextOf 51 = .ok (.if_icmp .ne 6, 3) := by decide +kernel
theorem dX6_nextOf_54 : decode cX6_nextOf 54 = .ok (.goto 22, 3) := by decide +kernel
theorem dX6_nextOf_57 : decode cX6_nextOf 57 = .ok (.iload 4, 2) := by decide +kernel
theorem dX6_nextOf_59 : decode cX6_nextOf 59 = .ok (.ifCond .eq 13, 3) := by decide +kernel
theorem dX6_nextOf_62 : decode cX6_nextOf 62 = .ok (.iload 5, 2) := by decide +kernel
theorem dX6_nextOf_64 : decode cX6_nextOf 64 = .ok (.iload 4, 2) := by decide +kernel
theorem dX6_nextOf_66 : decode cX6_nextOf 66 = .ok (.invokestatic 248, 3) := by decide +kernel
theorem dX6_nextOf_69 : decode cX6_nextOf 69 = .ok (.ifCond .eq 7, 3) := by decide +kernel
theorem dX6_nextOf_72 : decode cX6_nextOf 72 = .ok (.iload 5, 2) := by decide +kernel
theorem dX6_nextOf_74 : decode cX6_nextOf 74 = .ok (.istore 4, 2) := by decide +kernel
theorem dX6_nextOf_76 : decode cX6_nextOf 76 = .ok (.iinc 5 1, 3) := by decide +kernel
theorem dX6_nextOf_79 : decode cX6_nextOf 79 = .ok (.goto (-73), 3) := by decide +kernel
theorem dX6_nextOf_82 : decode cX6_nextOf 82 = .ok (.iload 4, 2) := by decide +kernel
theorem dX6_nextOf_84 : decode cX6_nextOf 84 = .ok (.ireturn, 1) := by decide +kernel
end
section
set_option maxRecDepth 20000 in
theorem ggX6_rootsTaken_X6_rootOf : GoodIn wsX6_rootsTaken wsX6_rootOf := goodIn_r _ [8, 9, 10, 11, 12, 13, 14, 15, 16, 17, 18, 19, 20, 21, 22, 23, 24, 25, 26, 27, 28, 29, 30, 31, 32, 33, 34, 35, 36, 37, 38, 39, 40, 41, 42, 43, 44, 45, 46, 47, 48, 49, 50, 51, 52] (by decide +kernel) (by decide +kernel)
set_option maxRecDepth 20000 in
theorem gX6_rootsTaken_X6_rootOf : GoodIn wsX6_rootsTaken (wsV RX6 184 RX6 yX6_rootOf wsX6_rootOf) := goodIn_app (goodIn_of _ (by decide +kernel)) ggX6_rootsTaken_X6_rootOf
theorem dX6_rootsTaken_0 : decode cX6_rootsTaken 0 = .ok (.iconst 0, 1) := by decide +kernel
theorem dX6_rootsTaken_1 : decode cX6_rootsTaken 1 = .ok (.istore_n 1, 1) := by decide +kernel
theorem dX6_rootsTaken_2 : decode cX6_rootsTaken 2 = .ok (.iconst 0, 1) := by decide +kernel
theorem dX6_rootsTaken_3 : decode cX6_rootsTaken 3 = .ok (.istore_n 2, 1) := by decide +kernel
theorem dX6_rootsTaken_4 : decode cX6_rootsTaken 4 = .ok (.iload_n 2, 1) := by decide +kernel
theorem dX6_rootsTaken_5 : decode cX6_rootsTaken 5 = .ok (.aload_n 0, 1) := by decide +kernel
theorem dX6_rootsTaken_6 : decode cX6_rootsTaken 6 = .ok (.getfield 158, 3) := by decide +kernel
theorem dX6_rootsTaken_9 : decode cX6_rootsTaken 9 = .ok (.if_icmp .ge 76, 3) := by decide +kernel
theorem dX6_rootsTaken_12 : decode cX6_rootsTaken 12 = .ok (.iconst 0, 1) := by decide +kernel
theorem dX6_rootsTaken_13 : decode cX6_rootsTaken 13 = .ok (.istore_n 3, 1) := by decide +kernel
theorem dX6_rootsTaken_14 : decode cX6_rootsTaken 14 = .ok (.iconst 0, 1) := by decide +kernel
theorem dX6_rootsTaken_15 : decode cX6_rootsTaken 15 = .ok (.istore 4, 2) := by decide +kernel
theorem dX6_rootsTaken_17 : decode cX6_rootsTaken 17 = .ok (.iload 4, 2) := by decide +kernel
theorem dX6_rootsTaken_19 : decode cX6_rootsTaken 19 = .ok (.aload_n 0, 1) := by decide +kernel
theorem dX6_rootsTaken_20 : decode cX6_rootsTaken 20 = .ok (.getfield 158, 3) := by decide +kernel
theorem dX6_rootsTaken_23 : decode cX6_rootsTaken 23 = .ok (.if_icmp .ge 39, 3) := by decide +kernel
theorem dX6_rootsTaken_26 : decode cX6_rootsTaken 26 = .ok (.iload_n 3, 1) := by decide +kernel
theorem dX6_rootsTaken_27 : decode cX6_rootsTaken 27 = .ok (.ifCond .ne 23, 3) := by decide +kernel
theorem dX6_rootsTaken_30 : decode cX6_rootsTaken 30 = .ok (.aload_n 0, 1) := by decide +kernel
theorem dX6_rootsTaken_31 : decode cX6_rootsTaken 31 = .ok (.getfield 40, 3) := by decide +kernel
theorem dX6_rootsTaken_34 : decode cX6_rootsTaken 34 = .ok (.iload 4, 2) := by decide +kernel
theorem dX6_rootsTaken_36 : decode cX6_rootsTaken 36 = .ok (.baload, 1) := by decide +kernel
theorem dX6_rootsTaken_37 : decode cX6_rootsTaken 37 = .ok (.ifCond .eq 17, 3) := by decide +kernel
theorem dX6_rootsTaken_40 : decode cX6_rootsTaken 40 = .ok (.aload_n 0, 1) := by decide +kernel
theorem dX6_rootsTaken_41 : decode cX6_rootsTaken 41 = .ok (.iload 4, 2) := by decide +kernel
theorem dX6_rootsTaken_43 : decode cX6_rootsTaken 43 = .ok (.invokevirtual 184, 3) := by decide +kernel
theorem dX6_rootsTaken_46 : decode cX6_rootsTaken 46 = .ok (.iload_n 2, 1) := by decide +kernel
theorem dX6_rootsTaken_47 : decode cX6_rootsTaken 47 = .ok (.if_icmp .ne 7, 3) := by decide +kernel
theorem dX6_rootsTaken_50 : decode cX6_rootsTaken 50 = .ok (.iconst 1, 1) := by decide +kernel
theorem dX6_rootsTaken_51 : decode cX6_rootsTaken 51 = .ok (.goto 4, 3) := by decide +kernel
theorem dX6_rootsTaken_54 : decode cX6_rootsTaken 54 = .ok (.iconst 0, 1) := by decide +kernel
theorem dX6_rootsTaken_55 : decode cX6_rootsTaken 55 = .ok (.istore_n 3, 1) := by decide +kernel
theorem dX6_rootsTaken_56 : decode cX6_rootsTaken 56 = .ok (.iinc 4 1, 3) := by decide +kernel
theorem dX6_rootsTaken_59 : decode cX6_rootsTaken 59 = .ok (.goto (-42), 3) := by decide +kernel
theorem dX6_rootsTaken_62 : decode cX6_rootsTaken 62 = .ok (.iload_n 3, 1) := by decide +kernel
theorem dX6_rootsTaken_63 : decode cX6_rootsTaken 63 = .ok (.ifCond .ne 6, 3) := by decide +kernel
theorem dX6_rootsTaken_66 : decode cX6_rootsTaken 66 = .ok (.goto 13, 3) := by decide +kernel
theorem dX6_rootsTaken_69 : decode cX6_rootsTaken 69 = .ok (.aload_n 0, 1) := by decide +kernel
theorem dX6_rootsTaken_70 : decode cX6_rootsTaken 70 = .ok (.getfield 89, 3) := by decide +kernel
theorem dX6_rootsTaken_73 : decode cX6_rootsTaken 73 = .ok (.iload_n 1, 1) := by decide +kernel
theorem dX6_rootsTaken_74 : decode cX6_rootsTaken 74 = .ok (.iload_n 2, 1) := by decide +kernel
theorem dX6_rootsTaken_75 : decode cX6_rootsTaken 75 = .ok (.iastore, 1) := by decide +kernel
theorem dX6_rootsTaken_76 : decode cX6_rootsTaken 76 = .ok (.iinc 1 1, 3) := by decide +kernel
theorem dX6_rootsTaken_79 : decode cX6_rootsTaken 79 = .ok (.iinc 2 1, 3) := by decide +kernel
theorem dX6_rootsTaken_82 : decode cX6_rootsTaken 82 = .ok (.goto (-78), 3) := by decide +kernel
theorem dX6_rootsTaken_85 : decode cX6_rootsTaken 85 = .ok (.iload_n 1, 1) := by decide +kernel
theorem dX6_rootsTaken_86 : decode cX6_rootsTaken 86 = .ok (.ireturn, 1) := by decide +kernel
set_option maxRecDepth 20000 in
theorem ggX6_slips_X6_rootsTaken : GoodIn wsX6_slips wsX6_rootsTaken := goodIn_r _ [14, 15, 16, 3, 17, 18, 19, 13, 20, 21, 96, 97, 98, 99, 100, 101, 102, 103, 104, 105, 106, 107, 108, 109, 110, 111, 112, 113, 114, 115, 116, 117, 118, 119, 120, 121, 122, 123, 124, 125, 126, 127, 128, 129, 130, 131, 132, 133, 134, 135, 136, 137, 138] (by decide +kernel) (by decide +kernel)
set_option maxRecDepth 20000 in
theorem gX6_slips_X6_rootsTaken : GoodIn wsX6_slips (wsV RX6 251 RX6 yX6_rootsTaken wsX6_rootsTaken) := goodIn_app (goodIn_of _ (by decide +kernel)) ggX6_slips_X6_rootsTaken
set_option maxRecDepth 20000 in
theorem ggX6_slips_X6_takenAll : GoodIn wsX6_slips wsX6_takenAll := goodIn_r _ [25, 15, 16, 96, 97, 98, 99, 100, 101, 102, 103, 104, 105, 106, 107, 108, 109, 110, 111, 112, 113, 114, 115, 116, 117, 118, 119, 120, 121, 122, 123, 124, 125, 126, 127, 128, 129, 130, 131, 132, 133, 134, 135, 136, 137, 138] (by decide +kernel) (by decide +kernel)
set_option maxRecDepth 20000 in
theorem gX6_slips_X6_takenAll : GoodIn wsX6_slips (wsV RX6 231 RX6 yX6_takenAll wsX6_takenAll) := goodIn_app (goodIn_of _ (by decide +kernel)) ggX6_slips_X6_takenAll
set_option maxRecDepth 20000 in
theorem ggX6_slips_X6_begins : GoodIn wsX6_slips wsX6_begins := goodIn_r _ [29, 30, 5, 4, 31, 96, 97, 98, 99, 100, 101, 102, 103, 104, 105, 106, 107, 108, 109, 110, 111, 112, 113, 114, 115, 116, 117, 118, 119, 120, 121, 122, 123, 124, 125, 126, 127, 128, 129, 130, 131, 132, 133, 134, 135, 136, 137, 138] (by decide +kernel) (by decide +kernel)
set_option maxRecDepth 20000 in
theorem gX6_slips_X6_begins : GoodIn wsX6_slips (wsV RX6 235 RX6 yX6_begins wsX6_begins) := goodIn_app (goodIn_of _ (by decide +kernel)) ggX6_slips_X6_begins
set_option maxRecDepth 20000 in
theorem ggX6_slips_X6_without : GoodIn wsX6_slips wsX6_without := goodIn_r _ [35, 15, 16, 17, 18, 19, 13, 20, 21, 96, 97, 98, 99, 100, 101, 102, 103, 104, 105, 106, 107, 108, 109, 110, 111, 112, 113, 114, 115, 116, 117, 118, 119, 120, 121, 122, 123, 124, 125, 126, 127, 128, 129, 130, 131, 132, 133, 134, 135, 136, 137, 138] (by decide +kernel) (by decide +kernel)
set_option maxRecDepth 20000 in
theorem gX6_slips_X6_without : GoodIn wsX6_slips (wsV RX6 254 RX6 yX6_without wsX6_without) := goodIn_app (goodIn_of _ (by decide +kernel)) ggX6_slips_X6_without
set_option maxRecDepth 20000 in
theorem ggX6_slips_X6_walks : GoodIn wsX6_slips wsX6_walks := goodIn_r _ [39, 6, 40, 41, 5, 42, 30, 43, 44, 45, 13, 46, 47, 48, 49, 15, 50, 51, 31, 52, 53, 54, 55, 4, 56, 57, 58, 59, 60, 61, 62, 63, 64, 65, 66, 67, 68, 69, 70, 71, 72, 73, 74, 75, 76, 77, 78, 79, 80, 81, 82, 83, 84, 85, 86, 87, 88, 89, 90, 91, 92, 93, 94, 95, 96, 97, 98, 99, 100, 101, 102, 103, 104, 105, 106, 107, 108, 109, 110, 111, 112, 113, 114, 115, 116, 117, 118, 119, 120, 121, 122, 123, 124, 125, 126, 127, 128, 129, 130, 131, 132, 133, 134, 135, 136, 137, 138] (by decide +kernel) (by decide +kernel)
set_option maxRecDepth 20000 in
theorem gX6_slips_X6_walks : GoodIn wsX6_slips (wsV RX6 238 RX6 yX6_walks wsX6_walks) := goodIn_app (goodIn_of _ (by decide +kernel)) ggX6_slips_X6_walks
theorem dX6_slips_0 : decode cX6_slips 0 = .ok (.aload_n 0, 1) := by decide +kernel
theorem dX6_slips_1 : decode cX6_slips 1 = .ok (.iconst 0, 1) := by decide +kernel
theorem dX6_slips_2 : decode cX6_slips 2 = .ok (.putfield 98, 3) := by decide +kernel
theorem dX6_slips_5 : decode cX6_slips 5 = .ok (.aload_n 0, 1) := by decide +kernel
theorem dX6_slips_6 : decode cX6_slips 6 = .ok (.invokevirtual 251, 3) := by decide +kernel
theorem dX6_slips_9 : decode cX6_slips 9 = .ok (.istore_n 1, 1) := by decide +kernel
theorem dX6_slips_10 : decode cX6_slips 10 = .ok (.aload_n 0, 1) := by decide +kernel
theorem dX6_slips_11 : decode cX6_slips 11 = .ok (.aload_n 0, 1) := by decide +kernel
theorem dX6_slips_12 : decode cX6_slips 12 = .ok (.invokevirtual 231, 3) := by decide +kernel
theorem dX6_slips_15 : decode cX6_slips 15 = .ok (.invokevirtual 235, 3) := by decide +kernel
theorem dX6_slips_18 : decode cX6_slips 18 = .ok (.iconst (-1), 1) := by decide +kernel
theorem dX6_slips_19 : decode cX6_slips 19 = .ok (.istore_n 2, 1) := by decide +kernel
theorem dX6_slips_20 : decode cX6_slips 20 = .ok (.iconst 0, 1) := by decide +kernel
theorem dX6_slips_21 : decode cX6_slips 21 = .ok (.istore_n 3, 1) := by decide +kernel
theorem dX6_slips_22 : decode cX6_slips 22 = .ok (.iconst 0, 1) := by decide +kernel
theorem dX6_slips_23 : decode cX6_slips 23 = .ok (.istore 4, 2) := by decide +kernel
theorem dX6_slips_25 : decode cX6_slips 25 = .ok (.iload 4, 2) := by decide +kernel
theorem dX6_slips_27 : decode cX6_slips 27 = .ok (.iconst 1, 1) := by decide +kernel
theorem dX6_slips_28 : decode cX6_slips 28 = .ok (.iload_n 1, 1) := by decide +kernel
theorem dX6_slips_29 : decode cX6_slips 29 = .ok (.ishl, 1) := by decide +kernel
theorem dX6_slips_30 : decode cX6_slips 30 = .ok (.if_icmp .ge 150, 3) := by decide +kernel
theorem dX6_slips_33 : decode cX6_slips 33 = .ok (.iconst 0, 1) := by decide +kernel
theorem dX6_slips_34 : decode cX6_slips 34 = .ok (.istore 5, 2) := by decide +kernel
theorem dX6_slips_36 : decode cX6_slips 36 = .ok (.iconst 0, 1) := by decide +kernel
theorem dX6_slips_37 : decode cX6_slips 37 = .ok (.istore 6, 2) := by decide +kernel
theorem dX6_slips_39 : decode cX6_slips 39 = .ok (.iconst 0, 1) := by decide +kernel
theorem dX6_slips_40 : decode cX6_slips 40 = .ok (.istore 7, 2) := by decide +kernel
theorem dX6_slips_42 : decode cX6_slips 42 = .ok (.iload 7, 2) := by decide +kernel
theorem dX6_slips_44 : decode cX6_slips 44 = .ok (.iload_n 1, 1) := by decide +kernel
theorem dX6_slips_45 : decode cX6_slips 45 = .ok (.if_icmp .ge 53, 3) := by decide +kernel
theorem dX6_slips_48 : decode cX6_slips 48 = .ok (.iload 4, 2) := by decide +kernel
theorem dX6_slips_50 : decode cX6_slips 50 = .ok (.iload 7, 2) := by decide +kernel
theorem dX6_slips_52 : decode cX6_slips 52 = .ok (.ishr, 1) := by decide +kernel
theorem dX6_slips_53 : decode cX6_slips 53 = .ok (.iconst 1, 1) := by decide +kernel
theorem dX6_slips_54 : decode cX6_slips 54 = .ok (.iand, 1) := by decide +kernel
theorem dX6_slips_55 : decode cX6_slips 55 = .ok (.ifCond .ne 6, 3) := by decide +kernel
theorem dX6_slips_58 : decode cX6_slips 58 = .ok (.goto 34, 3) := by decide +kernel
theorem dX6_slips_61 : decode cX6_slips 61 = .ok (.iload 5, 2) := by decide +kernel
theorem dX6_slips_63 : decode cX6_slips 63 = .ok (.aload_n 0, 1) := by decide +kernel
theorem dX6_slips_64 : decode cX6_slips 64 = .ok (.getfield 34, 3) := by decide +kernel
theorem dX6_slips_67 : decode cX6_slips 67 = .ok (.aload_n 0, 1) := by decide +kernel
theorem dX6_slips_68 : decode cX6_slips 68 = .ok (.getfield 89, 3) := by decide +kernel
theorem dX6_slips_71 : decode cX6_slips 71 = .ok (.iload 7, 2) := by decide +kernel
theorem dX6_slips_73 : decode cX6_slips 73 = .ok (.iaload, 1) := by decide +kernel
theorem dX6_slips_74 : decode cX6_slips 74 = .ok (.iaload, 1) := by decide +kernel
theorem dX6_slips_75 : decode cX6_slips 75 = .ok (.iadd, 1) := by decide +kernel
theorem dX6_slips_76 : decode cX6_slips 76 = .ok (.istore 5, 2) := by decide +kernel
theorem dX6_slips_78 : decode cX6_slips 78 = .ok (.iload 6, 2) := by decide +kernel
theorem dX6_slips_80 : decode cX6_slips 80 = .ok (.iconst 1, 1) := by decide +kernel
theorem dX6_slips_81 : decode cX6_slips 81 = .ok (.aload_n 0, 1) := by decide +kernel
theorem dX6_slips_82 : decode cX6_slips 82 = .ok (.getfield 89, 3) := by decide +kernel
theorem dX6_slips_85 : decode cX6_slips 85 = .ok (.iload 7, 2) := by decide +kernel
theorem dX6_slips_87 : decode cX6_slips 87 = .ok (.iaload, 1) := by decide +kernel
theorem dX6_slips_88 : decode cX6_slips 88 = .ok (.ishl, 1) := by decide +kernel
theorem dX6_slips_89 : decode cX6_slips 89 = .ok (.ior, 1) := by decide +kernel
theorem dX6_slips_90 : decode cX6_slips 90 = .ok (.istore 6, 2) := by decide +kernel
theorem dX6_slips_92 : decode cX6_slips 92 = .ok (.iinc 7 1, 3) := by decide +kernel
theorem dX6_slips_95 : decode cX6_slips 95 = .ok (.goto (-53), 3) := by decide +kernel
theorem dX6_slips_98 : decode cX6_slips 98 = .ok (.iload_n 2, 1) := by decide +kernel
theorem dX6_slips_99 : decode cX6_slips 99 = .ok (.iconst (-1), 1) := by decide +kernel
theorem dX6_slips_100 : decode cX6_slips 100 = .ok (.if_icmp .eq 12, 3) := by decide +kernel
theorem dX6_slips_103 : decode cX6_slips 103 = .ok (.iload 5, 2) := by decide +kernel
theorem dX6_slips_105 : decode cX6_slips 105 = .ok (.iload_n 2, 1) := by decide +kernel
theorem dX6_slips_106 : decode cX6_slips 106 = .ok (.if_icmp .le 6, 3) := by decide +kernel
theorem dX6_slips_109 : decode cX6_slips 109 = .ok (.goto 65, 3) := by decide +kernel
theorem dX6_slips_112 : decode cX6_slips 112 = .ok (.aload_n 0, 1) := by decide +kernel
theorem dX6_slips_113 : decode cX6_slips 113 = .ok (.aload_n 0, 1) := by decide +kernel
theorem dX6_slips_114 : decode cX6_slips 114 = .ok (.iload 6, 2) := by decide +kernel
theorem dX6_slips_116 : decode cX6_slips 116 = .ok (.invokevirtual 254, 3) := by decide +kernel
theorem dX6_slips_119 : decode cX6_slips 119 = .ok (.putfield 187, 3) := by decide +kernel
theorem dX6_slips_122 : decode cX6_slips 122 = .ok (.aload_n 0, 1) := by decide +kernel
theorem dX6_slips_123 : decode cX6_slips 123 = .ok (.iconst 0, 1) := by decide +kernel
theorem dX6_slips_124 : decode cX6_slips 124 = .ok (.invokevirtual 238, 3) := by decide +kernel
theorem dX6_slips_127 : decode cX6_slips 127 = .ok (.aload_n 0, 1) := by decide +kernel
theorem dX6_slips_128 : decode cX6_slips 128 = .ok (.getfield 216, 3) := by decide +kernel
theorem dX6_slips_131 : decode cX6_slips 131 = .ok (.ifCond .eq 6, 3) := by decide +kernel
theorem dX6_slips_134 : decode cX6_slips 134 = .ok (.bipush (-2), 2) := by decide +kernel
theorem dX6_slips_136 : decode cX6_slips 136 = .ok (.ireturn, 1) := by decide +kernel
theorem dX6_slips_137 : decode cX6_slips 137 = .ok (.aload_n 0, 1) := by decide +kernel
theorem dX6_slips_138 : decode cX6_slips 138 = .ok (.getfield 212, 3) := by decide +kernel
theorem dX6_slips_141 : decode cX6_slips 141 = .ok (.ifCond .ne 6, 3) := by decide +kernel
theorem dX6_slips_144 : decode cX6_slips 144 = .ok (.goto 30, 3) := by decide +kernel
theorem dX6_slips_147 : decode cX6_slips 147 = .ok (.iload_n 2, 1) := by decide +kernel
theorem dX6_slips_148 : decode cX6_slips 148 = .ok (.iconst (-1), 1) := by decide +kernel
theorem dX6_slips_149 : decode cX6_slips 149 = .ok (.if_icmp .eq 9, 3) := by decide +kernel
theorem dX6_slips_152 : decode cX6_slips 152 = .ok (.iload 5, 2) := by decide +kernel
theorem dX6_slips_154 : decode cX6_slips 154 = .ok (.iload_n 2, 1) := by decide +kernel
theorem dX6_slips_155 : decode cX6_slips 155 = .ok (.if_icmp .ge 5, 3) := by decide +kernel
theorem dX6_slips_158 : decode cX6_slips 158 = .ok (.iconst 0, 1) := by decide +kernel
theorem dX6_slips_159 : decode cX6_slips 159 = .ok (.istore_n 3, 1) := by decide +kernel
theorem dX6_slips_160 : decode cX6_slips 160 = .ok (.iload 5, 2) := by decide +kernel
theorem dX6_slips_162 : decode cX6_slips 162 = .ok (.istore_n 2, 1) := by decide +kernel
theorem dX6_slips_163 : decode cX6_slips 163 = .ok (.aload_n 0, 1) := by decide +kernel
theorem dX6_slips_164 : decode cX6_slips 164 = .ok (.getfield 86, 3) := by decide +kernel
theorem dX6_slips_167 : decode cX6_slips 167 = .ok (.iload_n 3, 1) := by decide +kernel
theorem dX6_slips_168 : decode cX6_slips 168 = .ok (.iload 6, 2) := by decide +kernel
theorem dX6_slips_170 : decode cX6_slips 170 = .ok (.iastore, 1) := by decide +kernel
theorem dX6_slips_171 : decode cX6_slips 171 = .ok (.iinc 3 1, 3) := by decide +kernel
theorem dX6_slips_174 : decode cX6_slips 174 = .ok (.iinc 4 1, 3) := by decide +kernel
theorem dX6_slips_177 : decode cX6_slips 177 = .ok (.goto (-152), 3) := by decide +kernel
theorem dX6_slips_180 : decode cX6_slips 180 = .ok (.aload_n 0, 1) := by decide +kernel
theorem dX6_slips_181 : decode cX6_slips 181 = .ok (.iload_n 3, 1) := by decide +kernel
theorem dX6_slips_182 : decode cX6_slips 182 = .ok (.putfield 257, 3) := by decide +kernel
theorem dX6_slips_185 : decode cX6_slips 185 = .ok (.iconst 0, 1) := by decide +kernel
theorem dX6_slips_186 : decode cX6_slips 186 = .ok (.istore 4, 2) := by decide +kernel
theorem dX6_slips_188 : decode cX6_slips 188 = .ok (.iload 4, 2) := by decide +kernel
theorem dX6_slips_190 : decode cX6_slips 190 = .ok (.iload_n 3, 1) := by decide +kernel
theorem dX6_slips_191 : decode cX6_slips 191 = .ok (.if_icmp .ge 23, 3) := by decide +kernel
theorem dX6_slips_194 : decode cX6_slips 194 = .ok (.aload_n 0, 1) := by decide +kernel
theorem dX6_slips_195 : decode cX6_slips 195 = .ok (.getfield 83, 3) := by decide +kernel
theorem dX6_slips_198 : decode cX6_slips 198 = .ok (.iload 4, 2) := by decide +kernel
theorem dX6_slips_200 : decode cX6_slips 200 = .ok (.aload_n 0, 1) := by decide +kernel
theorem dX6_slips_201 : decode cX6_slips 201 = .ok (.getfield 86, 3) := by decide +kernel
theorem dX6_slips_204 : decode cX6_slips 204 = .ok (.iload 4, 2) := by decide +kernel
theorem dX6_slips_206 : decode cX6_slips 206 = .ok (.iaload, 1) := by decide +kernel
theorem dX6_slips_207 : decode cX6_slips 207 = .ok (.iastore, 1) := by decide +kernel
theorem dX6_slips_208 : decode cX6_slips 208 = .ok (.iinc 4 1, 3) := by decide +kernel
theorem dX6_slips_211 : decode cX6_slips 211 = .ok (.goto (-23), 3) := by decide +kernel
theorem dX6_slips_214 : decode cX6_slips 214 = .ok (.iload_n 2, 1) := by decide +kernel
theorem dX6_slips_215 : decode cX6_slips 215 = .ok (.ireturn, 1) := by decide +kernel
set_option maxRecDepth 20000 in
theorem ggX6_without_X6_rootOf : GoodIn wsX6_without wsX6_rootOf := goodIn_r _ [7, 8, 9, 10, 11, 12, 13, 14, 15, 16, 17, 18, 19, 20, 21, 22, 23, 24, 25, 26, 27, 28, 29, 30, 31, 32, 33, 34, 35, 36, 37, 38, 39, 40, 41, 42, 43, 44, 45, 46, 47, 48, 49, 50, 51] (by decide +kernel) (by decide +kernel)
set_option maxRecDepth 20000 in
theorem gX6_without_X6_rootOf : GoodIn wsX6_without (wsV RX6 184 RX6 yX6_rootOf wsX6_rootOf) := goodIn_app (goodIn_of _ (by decide +kernel)) ggX6_without_X6_rootOf
theorem dX6_without_0 : decode cX6_without 0 = .ok (.iconst 0, 1) := by decide +kernel
theorem dX6_without_1 : decode cX6_without 1 = .ok (.istore_n 2, 1) := by decide +kernel
theorem dX6_without_2 : decode cX6_without 2 = .ok (.iconst 0, 1) := by decide +kernel
theorem dX6_without_3 : decode cX6_without 3 = .ok (.istore_n 3, 1) := by decide +kernel
theorem dX6_without_4 : decode cX6_without 4 = .ok (.iload_n 3, 1) := by decide +kernel
theorem dX6_without_5 : decode cX6_without 5 = .ok (.aload_n 0, 1) := by decide +kernel
theorem dX6_without_6 : decode cX6_without 6 = .ok (.getfield 158, 3) := by decide +kernel
theorem dX6_without_9 : decode cX6_without 9 = .ok (.if_icmp .ge 36, 3) := by decide +kernel
theorem dX6_without_12 : decode cX6_without 12 = .ok (.aload_n 0, 1) := by decide +kernel
theorem dX6_without_13 : decode cX6_without 13 = .ok (.getfield 40, 3) := by decide +kernel
theorem dX6_without_16 : decode cX6_without 16 = .ok (.iload_n 3, 1) := by decide +kernel
theorem dX6_without_17 : decode cX6_without 17 = .ok (.baload, 1) := by decide +kernel
theorem dX6_without_18 : decode cX6_without 18 = .ok (.ifCond .eq 21, 3) := by decide +kernel
theorem dX6_without_21 : decode cX6_without 21 = .ok (.iload_n 1, 1) := by decide +kernel
theorem dX6_without_22 : decode cX6_without 22 = .ok (.aload_n 0, 1) := by decide +kernel
theorem dX6_without_23 : decode cX6_without 23 = .ok (.iload_n 3, 1) := by decide +kernel
theorem dX6_without_24 : decode cX6_without 24 = .ok (.invokevirtual 184, 3) := by decide +kernel
theorem dX6_without_27 : decode cX6_without 27 = .ok (.ishr, 1) := by decide +kernel
theorem dX6_without_28 : decode cX6_without 28 = .ok (.iconst 1, 1) := by decide +kernel
theorem dX6_without_29 : decode cX6_without 29 = .ok (.iand, 1) := by decide +kernel
theorem dX6_without_30 : decode cX6_without 30 = .ok (.ifCond .ne 9, 3) := by decide +kernel
theorem dX6_without_33 : decode cX6_without 33 = .ok (.iload_n 2, 1) := by decide +kernel
theorem dX6_without_34 : decode cX6_without 34 = .ok (.iconst 1, 1) := by decide +kernel
theorem dX6_without_35 : decode cX6_without 35 = .ok (.iload_n 3, 1) := by decide +kernel
theorem dX6_without_36 : decode cX6_without 36 = .ok (.ishl, 1) := by decide +kernel
theorem dX6_without_37 : decode cX6_without 37 = .ok (.ior, 1) := by decide +kernel
theorem dX6_without_38 : decode cX6_without 38 = .ok (.istore_n 2, 1) := by decide +kernel
theorem dX6_without_39 : decode cX6_without 39 = .ok (.iinc 3 1, 3) := by decide +kernel
theorem dX6_without_42 : decode cX6_without 42 = .ok (.goto (-38), 3) := by decide +kernel
theorem dX6_without_45 : decode cX6_without 45 = .ok (.iload_n 2, 1) := by decide +kernel
theorem dX6_without_46 : decode cX6_without 46 = .ok (.ireturn, 1) := by decide +kernel
theorem dX6_slipped_0 : decode cX6_slipped 0 = .ok (.aload_n 0, 1) := by decide +kernel
theorem dX6_slipped_1 : decode cX6_slipped 1 = .ok (.iconst 0, 1) := by decide +kernel
theorem dX6_slipped_2 : decode cX6_slipped 2 = .ok (.putfield 98, 3) := by decide +kernel
theorem dX6_slipped_5 : decode cX6_slipped 5 = .ok (.iload_n 1, 1) := by decide +kernel
theorem dX6_slipped_6 : decode cX6_slipped 6 = .ok (.iconst (-1), 1) := by decide +kernel
theorem dX6_slipped_7 : decode cX6_slipped 7 = .ok (.if_icmp .ne 8, 3) := by decide +kernel
theorem dX6_slipped_10 : decode cX6_slipped 10 = .ok (.aload_n 0, 1) := by decide +kernel
theorem dX6_slipped_11 : decode cX6_slipped 11 = .ok (.getfield 257, 3) := by decide +kernel
theorem dX6_slipped_14 : decode cX6_slipped 14 = .ok (.ireturn, 1) := by decide +kernel
theorem dX6_slipped_15 : decode cX6_slipped 15 = .ok (.iload_n 1, 1) := by decide +kernel
theorem dX6_slipped_16 : decode cX6_slipped 16 = .ok (.ifCond .lt 11, 3) := by decide +kernel
theorem dX6_slipped_19 : decode cX6_slipped 19 = .ok (.iload_n 1, 1) := by decide +kernel
theorem dX6_slipped_20 : decode cX6_slipped 20 = .ok (.aload_n 0, 1) := by decide +kernel
theorem dX6_slipped_21 : decode cX6_slipped 21 = .ok (.getfield 257, 3) := by decide +kernel
theorem dX6_slipped_24 : decode cX6_slipped 24 = .ok (.if_icmp .lt 7, 3) := by decide +kernel
theorem dX6_slipped_27 : decode cX6_slipped 27 = .ok (.iconst (-1), 1) := by decide +kernel
theorem dX6_slipped_28 : decode cX6_slipped 28 = .ok (.goto 9, 3) := by decide +kernel
theorem dX6_slipped_31 : decode cX6_slipped 31 = .ok (.aload_n 0, 1) := by decide +kernel
theorem dX6_slipped_32 : decode cX6_slipped 32 = .ok (.getfield 83, 3) := by decide +kernel
theorem dX6_slipped_35 : decode cX6_slipped 35 = .ok (.iload_n 1, 1) := by decide +kernel
theorem dX6_slipped_36 : decode cX6_slipped 36 = .ok (.iaload, 1) := by decide +kernel
theorem dX6_slipped_37 : decode cX6_slipped 37 = .ok (.ireturn, 1) := by decide +kernel
set_option maxRecDepth 20000 in
theorem ggX6_widthOf_X6_takenAll : GoodIn wsX6_widthOf wsX6_takenAll := goodIn_r _ [12, 13, 14, 77, 78, 79, 80, 81, 82, 83, 84, 85, 86, 87, 88, 89, 90, 91, 92, 93, 94, 95, 96, 97, 98, 99, 100, 101, 102, 103, 104, 105, 106, 107, 108, 109, 110, 111, 112, 113, 114, 115, 116, 117, 118, 119] (by decide +kernel) (by decide +kernel)
set_option maxRecDepth 20000 in
theorem gX6_widthOf_X6_takenAll : GoodIn wsX6_widthOf (wsV RX6 231 RX6 yX6_takenAll wsX6_takenAll) := goodIn_app (goodIn_of _ (by decide +kernel)) ggX6_widthOf_X6_takenAll
set_option maxRecDepth 20000 in
theorem ggX6_widthOf_X6_begins : GoodIn wsX6_widthOf wsX6_begins := goodIn_r _ [18, 19, 3, 20, 1, 77, 78, 79, 80, 81, 82, 83, 84, 85, 86, 87, 88, 89, 90, 91, 92, 93, 94, 95, 96, 97, 98, 99, 100, 101, 102, 103, 104, 105, 106, 107, 108, 109, 110, 111, 112, 113, 114, 115, 116, 117, 118, 119] (by decide +kernel) (by decide +kernel)
set_option maxRecDepth 20000 in
theorem gX6_widthOf_X6_begins : GoodIn wsX6_widthOf (wsV RX6 235 RX6 yX6_begins wsX6_begins) := goodIn_app (goodIn_of _ (by decide +kernel)) ggX6_widthOf_X6_begins
set_option maxRecDepth 20000 in
theorem ggX6_widthOf_X6_walks : GoodIn wsX6_widthOf wsX6_walks := goodIn_r _ [24, 4, 25, 5, 3, 26, 19, 27, 28, 29, 11, 30, 31, 32, 33, 13, 34, 35, 1, 36, 37, 38, 39, 20, 40, 41, 42, 43, 44, 45, 46, 47, 48, 49, 50, 51, 52, 53, 54, 55, 56, 57, 58, 59, 2, 60, 61, 62, 63, 64, 65, 66, 67, 68, 69, 70, 71, 72, 73, 74, 75, 76, 7, 6, 77, 78, 79, 80, 81, 82, 83, 84, 85, 86, 87, 88, 89, 90, 91, 92, 93, 94, 95, 96, 97, 98, 99, 100, 101, 102, 103, 104, 105, 106, 107, 108, 109, 110, 111, 112, 113, 114, 115, 116, 117, 118, 119] (by decide +kernel) (by decide +kernel)
set_option maxRecDepth 20000 in
theorem gX6_widthOf_X6_walks : GoodIn wsX6_widthOf (wsV RX6 238 RX6 yX6_walks wsX6_walks) := goodIn_app (goodIn_of _ (by decide +kernel)) ggX6_widthOf_X6_walks
theorem dX6_widthOf_0 : decode cX6_widthOf 0 = .ok (.aload_n 0, 1) := by decide +kernel
theorem dX6_widthOf_1 : decode cX6_widthOf 1 = .ok (.aload_n 0, 1) := by decide +kernel
theorem dX6_widthOf_2 : decode cX6_widthOf 2 = .ok (.invokevirtual 231, 3) := by decide +kernel
theorem dX6_widthOf_5 : decode cX6_widthOf 5 = .ok (.invokevirtual 235, 3) := by decide +kernel
theorem dX6_widthOf_8 : decode cX6_widthOf 8 = .ok (.aload_n 0, 1) := by decide +kernel
theorem dX6_widthOf_9 : decode cX6_widthOf 9 = .ok (.iload_n 1, 1) := by decide +kernel
theorem dX6_widthOf_10 : decode cX6_widthOf 10 = .ok (.putfield 196, 3) := by decide +kernel
theorem dX6_widthOf_13 : decode cX6_widthOf 13 = .ok (.aload_n 0, 1) := by decide +kernel
theorem dX6_widthOf_14 : decode cX6_widthOf 14 = .ok (.iload_n 2, 1) := by decide +kernel
theorem dX6_widthOf_15 : decode cX6_widthOf 15 = .ok (.putfield 203, 3) := by decide +kernel
theorem dX6_widthOf_18 : decode cX6_widthOf 18 = .ok (.aload_n 0, 1) := by decide +kernel
theorem dX6_widthOf_19 : decode cX6_widthOf 19 = .ok (.iconst 1, 1) := by decide +kernel
theorem dX6_widthOf_20 : decode cX6_widthOf 20 = .ok (.invokevirtual 238, 3) := by decide +kernel
theorem dX6_widthOf_23 : decode cX6_widthOf 23 = .ok (.aload_n 0, 1) := by decide +kernel
theorem dX6_widthOf_24 : decode cX6_widthOf 24 = .ok (.getfield 216, 3) := by decide +kernel
theorem dX6_widthOf_27 : decode cX6_widthOf 27 = .ok (.ifCond .eq 6, 3) := by decide +kernel
theorem dX6_widthOf_30 : decode cX6_widthOf 30 = .ok (.bipush (-2), 2) := by decide +kernel
theorem dX6_widthOf_32 : decode cX6_widthOf 32 = .ok (.ireturn, 1) := by decide +kernel
theorem dX6_widthOf_33 : decode cX6_widthOf 33 = .ok (.aload_n 0, 1) := by decide +kernel
theorem dX6_widthOf_34 : decode cX6_widthOf 34 = .ok (.getfield 212, 3) := by decide +kernel
theorem dX6_widthOf_37 : decode cX6_widthOf 37 = .ok (.ifCond .ne 5, 3) := by decide +kernel
theorem dX6_widthOf_40 : decode cX6_widthOf 40 = .ok (.iconst (-1), 1) := by decide +kernel
theorem dX6_widthOf_41 : decode cX6_widthOf 41 = .ok (.ireturn, 1) := by decide +kernel
theorem dX6_widthOf_42 : decode cX6_widthOf 42 = .ok (.iconst 0, 1) := by decide +kernel
theorem dX6_widthOf_43 : decode cX6_widthOf 43 = .ok (.istore_n 3, 1) := by decide +kernel
theorem dX6_widthOf_44 : decode cX6_widthOf 44 = .ok (.iconst 0, 1) := by decide +kernel
theorem dX6_widthOf_45 : decode cX6_widthOf 45 = .ok (.istore 4, 2) := by decide +kernel
theorem dX6_widthOf_47 : decode cX6_widthOf 47 = .ok (.iload 4, 2) := by decide +kernel
theorem dX6_widthOf_49 : decode cX6_widthOf 49 = .ok (.aload_n 0, 1) := by decide +kernel
theorem dX6_widthOf_50 : decode cX6_widthOf 50 = .ok (.getfield 151, 3) := by decide +kernel
theorem dX6_widthOf_53 : decode cX6_widthOf 53 = .ok (.if_icmp .ge 27, 3) := by decide +kernel
theorem dX6_widthOf_56 : decode cX6_widthOf 56 = .ok (.iload_n 3, 1) := by decide +kernel
theorem dX6_widthOf_57 : decode cX6_widthOf 57 = .ok (.aload_n 0, 1) := by decide +kernel
theorem dX6_widthOf_58 : decode cX6_widthOf 58 = .ok (.getfield 80, 3) := by decide +kernel
theorem dX6_widthOf_61 : decode cX6_widthOf 61 = .ok (.iload 4, 2) := by decide +kernel
theorem dX6_widthOf_63 : decode cX6_widthOf 63 = .ok (.iaload, 1) := by decide +kernel
theorem dX6_widthOf_64 : decode cX6_widthOf 64 = .ok (.aload_n 0, 1) := by decide +kernel
theorem dX6_widthOf_65 : decode cX6_widthOf 65 = .ok (.getfield 77, 3) := by decide +kernel
theorem dX6_widthOf_68 : decode cX6_widthOf 68 = .ok (.iload 4, 2) := by decide +kernel
theorem dX6_widthOf_70 : decode cX6_widthOf 70 = .ok (.iaload, 1) := by decide +kernel
theorem dX6_widthOf_71 : decode cX6_widthOf 71 = .ok (.isub, 1) := by decide +kernel
theorem dX6_widthOf_72 : decode cX6_widthOf 72 = .ok (.iadd, 1) := by decide +kernel
theorem dX6_widthOf_73 : decode cX6_widthOf 73 = .ok (.istore_n 3, 1) := by decide +kernel
theorem dX6_widthOf_74 : decode cX6_widthOf 74 = .ok (.iinc 4 1, 3) := by decide +kernel
theorem dX6_widthOf_77 : decode cX6_widthOf 77 = .ok (.goto (-30), 3) := by decide +kernel
theorem dX6_widthOf_80 : decode cX6_widthOf 80 = .ok (.iload_n 3, 1) := by decide +kernel
theorem dX6_widthOf_81 : decode cX6_widthOf 81 = .ok (.ireturn, 1) := by decide +kernel
set_option maxRecDepth 20000 in
theorem ggX6_width_X6_isEvent : GoodIn wsX6_width wsX6_isEvent := goodIn_r _ [6, 7, 90, 91, 92, 93, 94, 95, 96, 97, 98, 99, 100, 101, 102, 103, 104, 105, 106, 107, 108, 109, 110, 111, 112, 113, 114, 115, 116, 117, 118, 119, 120, 121, 122, 123, 124, 125, 126, 127, 128, 129, 130, 131, 132] (by decide +kernel) (by decide +kernel)
set_option maxRecDepth 20000 in
theorem gX6_width_X6_isEvent : GoodIn wsX6_width (wsV RX6 228 RX6 yX6_isEvent wsX6_isEvent) := goodIn_app (goodIn_of _ (by decide +kernel)) ggX6_width_X6_isEvent
set_option maxRecDepth 20000 in
theorem ggX6_width_X6_isDay : GoodIn wsX6_width wsX6_isDay := goodIn_r _ [10, 11] (by decide +kernel) (by decide +kernel)
set_option maxRecDepth 20000 in
theorem gX6_width_X6_isDay : GoodIn wsX6_width (va_wsS RX6 124 yX6_isDay wsX6_isDay) := goodIn_app (goodIn_of _ (by decide +kernel)) ggX6_width_X6_isDay
set_option maxRecDepth 20000 in
theorem ggX6_width_X6_widthOf : GoodIn wsX6_width wsX6_widthOf := goodIn_r _ [15, 16, 17, 18, 19, 7, 20, 21, 22, 23, 24, 5, 25, 26, 27, 28, 29, 30, 31, 32, 33, 34, 35, 36, 37, 38, 39, 40, 41, 42, 43, 44, 45, 46, 47, 48, 49, 50, 51, 52, 53, 54, 55, 56, 57, 58, 59, 60, 61, 62, 63, 64, 65, 66, 67, 68, 69, 70, 71, 72, 73, 74, 75, 76, 77, 78, 79, 80, 81, 82, 83, 84, 85, 86, 87, 88, 89, 90, 91, 92, 93, 94, 95, 96, 97, 98, 99, 100, 101, 102, 103, 104, 105, 106, 107, 108, 109, 110, 111, 112, 113, 114, 115, 116, 117, 118, 119, 120, 121, 122, 123, 124, 125, 126, 127, 128, 129, 130, 131, 132] (by decide +kernel) (by decide +kernel)
set_option maxRecDepth 20000 in
theorem gX6_width_X6_widthOf : GoodIn wsX6_width (wsV RX6 260 RX6 yX6_widthOf wsX6_widthOf) := goodIn_app (goodIn_of _ (by decide +kernel)) ggX6_width_X6_widthOf
theorem dX6_width_0 : decode cX6_width 0 = .ok (.aload_n 0, 1) := by decide +kernel
theorem dX6_width_1 : decode cX6_width 1 = .ok (.iconst 0, 1) := by decide +kernel
theorem dX6_width_2 : decode cX6_width 2 = .ok (.putfield 98, 3) := by decide +kernel
theorem dX6_width_5 : decode cX6_width 5 = .ok (.iload_n 1, 1) := by decide +kernel
theorem dX6_width_6 : decode cX6_width 6 = .ok (.iconst (-1), 1) := by decide +kernel
theorem dX6_width_7 : decode cX6_width 7 = .ok (.if_icmp .ne 12, 3) := by decide +kernel
theorem dX6_width_10 : decode cX6_width 10 = .ok (.iload_n 2, 1) := by decide +kernel
theorem dX6_width_11 : decode cX6_width 11 = .ok (.iconst (-1), 1) := by decide +kernel
theorem dX6_width_12 : decode cX6_width 12 = .ok (.if_icmp .ne 7, 3) := by decide +kernel
theorem dX6_width_15 : decode cX6_width 15 = .ok (.iconst 1, 1) := by decide +kernel
theorem dX6_width_16 : decode cX6_width 16 = .ok (.goto 4, 3) := by decide +kernel
theorem dX6_width_19 : decode cX6_width 19 = .ok (.iconst 0, 1) := by decide +kernel
theorem dX6_width_20 : decode cX6_width 20 = .ok (.istore_n 3, 1) := by decide +kernel
theorem dX6_width_21 : decode cX6_width 21 = .ok (.iload_n 3, 1) := by decide +kernel
theorem dX6_width_22 : decode cX6_width 22 = .ok (.ifCond .ne 22, 3) := by decide +kernel
theorem dX6_width_25 : decode cX6_width 25 = .ok (.aload_n 0, 1) := by decide +kernel
theorem dX6_width_26 : decode cX6_width 26 = .ok (.iload_n 1, 1) := by decide +kernel
theorem dX6_width_27 : decode cX6_width 27 = .ok (.invokevirtual 228, 3) := by decide +kernel
theorem dX6_width_30 : decode cX6_width 30 = .ok (.ifCond .eq 10, 3) := by decide +kernel
theorem dX6_width_33 : decode cX6_width 33 = .ok (.iload_n 2, 1) := by decide +kernel
theorem dX6_width_34 : decode cX6_width 34 = .ok (.invokestatic 124, 3) := by decide +kernel
theorem dX6_width_37 : decode cX6_width 37 = .ok (.ifCond .ne 7, 3) := by decide +kernel
theorem dX6_width_40 : decode cX6_width 40 = .ok (.iconst (-1), 1) := by decide +kernel
theorem dX6_width_41 : decode cX6_width 41 = .ok (.goto 9, 3) := by decide +kernel
theorem dX6_width_44 : decode cX6_width 44 = .ok (.aload_n 0, 1) := by decide +kernel
theorem dX6_width_45 : decode cX6_width 45 = .ok (.iload_n 1, 1) := by decide +kernel
theorem dX6_width_46 : decode cX6_width 46 = .ok (.iload_n 2, 1) := by decide +kernel
theorem dX6_width_47 : decode cX6_width 47 = .ok (.invokevirtual 260, 3) := by decide +kernel
theorem dX6_width_50 : decode cX6_width 50 = .ok (.ireturn, 1) := by decide +kernel
set_option maxRecDepth 20000 in
theorem ggX6_settles_X6_widthOf : GoodIn wsX6_settles wsX6_widthOf := goodIn_r _ [15, 16, 17, 18, 19, 2, 6, 4, 20, 21, 22, 14, 23, 24, 25, 26, 27, 28, 29, 30, 31, 32, 33, 34, 35, 36, 37, 38, 39, 40, 41, 42, 43, 44, 45, 46, 47, 48, 49, 50, 51, 52, 53, 54, 55, 56, 7, 8, 9, 10, 57, 58, 59, 60, 61, 62, 63, 64, 65, 66, 67, 68, 69, 70, 71, 72, 73, 74, 75, 76, 77, 78, 79, 80, 81, 82, 83, 84, 85, 86, 87, 88, 89, 90, 91, 92, 93, 94, 95, 96, 97, 98, 99, 100, 101, 102, 103, 104, 105, 106, 107, 108, 109, 110, 111, 112, 113, 114, 115, 116, 117, 118, 119, 120, 121, 122, 123, 124, 125, 126] (by decide +kernel) (by decide +kernel)
set_option maxRecDepth 20000 in
theorem gX6_settles_X6_widthOf : GoodIn wsX6_settles (wsV RX6 260 RX6 yX6_widthOf wsX6_widthOf) := goodIn_app (goodIn_of _ (by decide +kernel)) ggX6_settles_X6_widthOf
theorem dX6_settles_0 : decode cX6_settles 0 = .ok (.aload_n 0, 1) := by decide +kernel
theorem dX6_settles_1 : decode cX6_settles 1 = .ok (.iconst 0, 1) := by decide +kernel
theorem dX6_settles_2 : decode cX6_settles 2 = .ok (.putfield 98, 3) := by decide +kernel
theorem dX6_settles_5 : decode cX6_settles 5 = .ok (.aload_n 0, 1) := by decide +kernel
theorem dX6_settles_6 : decode cX6_settles 6 = .ok (.iconst (-1), 1) := by decide +kernel
theorem dX6_settles_7 : decode cX6_settles 7 = .ok (.iconst (-1), 1) := by decide +kernel
theorem dX6_settles_8 : decode cX6_settles 8 = .ok (.invokevirtual 260, 3) := by decide +kernel
theorem dX6_settles_11 : decode cX6_settles 11 = .ok (.istore_n 1, 1) := by decide +kernel
theorem dX6_settles_12 : decode cX6_settles 12 = .ok (.iload_n 1, 1) := by decide +kernel
theorem dX6_settles_13 : decode cX6_settles 13 = .ok (.ifCond .ge 5, 3) := by decide +kernel
theorem dX6_settles_16 : decode cX6_settles 16 = .ok (.iload_n 1, 1) := by decide +kernel
theorem dX6_settles_17 : decode cX6_settles 17 = .ok (.ireturn, 1) := by decide +kernel
theorem dX6_settles_18 : decode cX6_settles 18 = .ok (.iconst 0, 1) := by decide +kernel
theorem dX6_settles_19 : decode cX6_settles 19 = .ok (.istore_n 2, 1) := by decide +kernel
theorem dX6_settles_20 : decode cX6_settles 20 = .ok (.iload_n 2, 1) := by decide +kernel
theorem dX6_settles_21 : decode cX6_settles 21 = .ok (.aload_n 0, 1) := by decide +kernel
theorem dX6_settles_22 : decode cX6_settles 22 = .ok (.getfield 151, 3) := by decide +kernel
theorem dX6_settles_25 : decode cX6_settles 25 = .ok (.if_icmp .ge 33, 3) := by decide +kernel
theorem dX6_settles_28 : decode cX6_settles 28 = .ok (.aload_n 0, 1) := by decide +kernel
theorem dX6_settles_29 : decode cX6_settles 29 = .ok (.getfield 92, 3) := by decide +kernel
theorem dX6_settles_32 : decode cX6_settles 32 = .ok (.iload_n 2, 1) := by decide +kernel
theorem dX6_settles_33 : decode cX6_settles 33 = .ok (.aload_n 0, 1) := by decide +kernel
theorem dX6_settles_34 : decode cX6_settles 34 = .ok (.getfield 77, 3) := by decide +kernel
theorem dX6_settles_37 : decode cX6_settles 37 = .ok (.iload_n 2, 1) := by decide +kernel
theorem dX6_settles_38 : decode cX6_settles 38 = .ok (.iaload, 1) := by decide +kernel
theorem dX6_settles_39 : decode cX6_settles 39 = .ok (.iastore, 1) := by decide +kernel
theorem dX6_settles_40 : decode cX6_settles 40 = .ok (.aload_n 0, 1) := by decide +kernel
theorem dX6_settles_41 : decode cX6_settles 41 = .ok (.getfield 95, 3) := by decide +kernel
theorem dX6_settles_44 : decode cX6_settles 44 = .ok (.iload_n 2, 1) := by decide +kernel
theorem dX6_settles_45 : decode cX6_settles 45 = .ok (.aload_n 0, 1) := by decide +kernel
theorem dX6_settles_46 : decode cX6_settles 46 = .ok (.getfield 80, 3) := by decide +kernel
theorem dX6_settles_49 : decode cX6_settles 49 = .ok (.iload_n 2, 1) := by decide +kernel
theorem dX6_settles_50 : decode cX6_settles 50 = .ok (.iaload, 1) := by decide +kernel
theorem dX6_settles_51 : decode cX6_settles 51 = .ok (.iastore, 1) := by decide +kernel
theorem dX6_settles_52 : decode cX6_settles 52 = .ok (.iinc 2 1, 3) := by decide +kernel
theorem dX6_settles_55 : decode cX6_settles 55 = .ok (.goto (-35), 3) := by decide +kernel
theorem dX6_settles_58 : decode cX6_settles 58 = .ok (.iconst (-1), 1) := by decide +kernel
theorem dX6_settles_59 : decode cX6_settles 59 = .ok (.istore_n 2, 1) := by decide +kernel
theorem dX6_settles_60 : decode cX6_settles 60 = .ok (.iconst 0, 1) := by decide +kernel
theorem dX6_settles_61 : decode cX6_settles 61 = .ok (.istore_n 3, 1) := by decide +kernel
theorem dX6_settles_62 : decode cX6_settles 62 = .ok (.iconst 0, 1) := by decide +kernel
theorem dX6_settles_63 : decode cX6_settles 63 = .ok (.istore 4, 2) := by decide +kernel
theorem dX6_settles_65 : decode cX6_settles 65 = .ok (.iload 4, 2) := by decide +kernel
theorem dX6_settles_67 : decode cX6_settles 67 = .ok (.aload_n 0, 1) := by decide +kernel
theorem dX6_settles_68 : decode cX6_settles 68 = .ok (.getfield 151, 3) := by decide +kernel
theorem dX6_settles_71 : decode cX6_settles 71 = .ok (.if_icmp .ge 108, 3) := by decide +kernel
theorem dX6_settles_74 : decode cX6_settles 74 = .ok (.aload_n 0, 1) := by decide +kernel
theorem dX6_settles_75 : decode cX6_settles 75 = .ok (.getfield 92, 3) := by decide +kernel
theorem dX6_settles_78 : decode cX6_settles 78 = .ok (.iload 4, 2) := by decide +kernel
theorem dX6_settles_80 : decode cX6_settles 80 = .ok (.iaload, 1) := by decide +kernel
theorem dX6_settles_81 : decode cX6_settles 81 = .ok (.aload_n 0, 1) := by decide +kernel
theorem dX6_settles_82 : decode cX6_settles 82 = .ok (.getfield 95, 3) := by decide +kernel
theorem dX6_settles_85 : decode cX6_settles 85 = .ok (.iload 4, 2) := by decide +kernel
theorem dX6_settles_87 : decode cX6_settles 87 = .ok (.iaload, 1) := by decide +kernel
theorem dX6_settles_88 : decode cX6_settles 88 = .ok (.if_icmp .ne 6, 3) := by decide +kernel
theorem dX6_settles_91 : decode cX6_settles 91 = .ok (.goto 82, 3) := by decide +kernel
theorem dX6_settles_94 : decode cX6_settles 94 = .ok (.aload_n 0, 1) := by decide +kernel
theorem dX6_settles_95 : decode cX6_settles 95 = .ok (.iload 4, 2) := by decide +kernel
theorem dX6_settles_97 : decode cX6_settles 97 = .ok (.aload_n 0, 1) := by decide +kernel
theorem dX6_settles_98 : decode cX6_settles 98 = .ok (.getfield 92, 3) := by decide +kernel
theorem dX6_settles_101 : decode cX6_settles 101 = .ok (.iload 4, 2) := by decide +kernel
theorem dX6_settles_103 : decode cX6_settles 103 = .ok (.iaload, 1) := by decide +kernel
theorem dX6_settles_104 : decode cX6_settles 104 = .ok (.invokevirtual 260, 3) := by decide +kernel
theorem dX6_settles_107 : decode cX6_settles 107 = .ok (.istore 5, 2) := by decide +kernel
theorem dX6_settles_109 : decode cX6_settles 109 = .ok (.iload 5, 2) := by decide +kernel
theorem dX6_settles_111 : decode cX6_settles 111 = .ok (.bipush (-2), 2) := by decide +kernel
theorem dX6_settles_113 : decode cX6_settles 113 = .ok (.if_icmp .ne 6, 3) := by decide +kernel
theorem dX6_settles_116 : decode cX6_settles 116 = .ok (.bipush (-2), 2) := by decide +kernel
theorem dX6_settles_118 : decode cX6_settles 118 = .ok (.ireturn, 1) := by decide +kernel
theorem dX6_settles_119 : decode cX6_settles 119 = .ok (.aload_n 0, 1) := by decide +kernel
theorem dX6_settles_120 : decode cX6_settles 120 = .ok (.iload 4, 2) := by decide +kernel
theorem dX6_settles_122 : decode cX6_settles 122 = .ok (.aload_n 0, 1) := by decide +kernel
theorem dX6_settles_123 : decode cX6_settles 123 = .ok (.getfield 95, 3) := by decide +kernel
theorem dX6_settles_126 : decode cX6_settles 126 = .ok (.iload 4, 2) := by decide +kernel
theorem dX6_settles_128 : decode cX6_settles 128 = .ok (.iaload, 1) := by decide +kernel
theorem dX6_settles_129 : decode cX6_settles 129 = .ok (.invokevirtual 260, 3) := by decide +kernel
theorem dX6_settles_132 : decode cX6_settles 132 = .ok (.istore 6, 2) := by decide +kernel
theorem dX6_settles_134 : decode cX6_settles 134 = .ok (.iload 6, 2) := by decide +kernel
theorem dX6_settles_136 : decode cX6_settles 136 = .ok (.bipush (-2), 2) := by decide +kernel
theorem dX6_settles_138 : decode cX6_settles 138 = .ok (.if_icmp .ne 6, 3) := by decide +kernel
theorem dX6_settles_141 : decode cX6_settles 141 = .ok (.bipush (-2), 2) := by decide +kernel
theorem dX6_settles_143 : decode cX6_settles 143 = .ok (.ireturn, 1) := by decide +kernel
theorem dX6_settles_144 : decode cX6_settles 144 = .ok (.iload 5, 2) := by decide +kernel
theorem dX6_settles_146 : decode cX6_settles 146 = .ok (.iload 6, 2) := by decide +kernel
theorem dX6_settles_148 : decode cX6_settles 148 = .ok (.invokestatic 128, 3) := by decide +kernel
theorem dX6_settles_151 : decode cX6_settles 151 = .ok (.istore 7, 2) := by decide +kernel
theorem dX6_settles_153 : decode cX6_settles 153 = .ok (.iload_n 2, 1) := by decide +kernel
theorem dX6_settles_154 : decode cX6_settles 154 = .ok (.iconst (-1), 1) := by decide +kernel
theorem dX6_settles_155 : decode cX6_settles 155 = .ok (.if_icmp .eq 12, 3) := by decide +kernel
theorem dX6_settles_158 : decode cX6_settles 158 = .ok (.iload 7, 2) := by decide +kernel
theorem dX6_settles_160 : decode cX6_settles 160 = .ok (.iload_n 3, 1) := by decide +kernel
theorem dX6_settles_161 : decode cX6_settles 161 = .ok (.if_icmp .lt 6, 3) := by decide +kernel
theorem dX6_settles_164 : decode cX6_settles 164 = .ok (.goto 9, 3) := by decide +kernel
theorem dX6_settles_167 : decode cX6_settles 167 = .ok (.iload 4, 2) := by decide +kernel
theorem dX6_settles_169 : decode cX6_settles 169 = .ok (.istore_n 2, 1) := by decide +kernel
theorem dX6_settles_170 : decode cX6_settles 170 = .ok (.iload 7, 2) := by decide +kernel
theorem dX6_settles_172 : decode cX6_settles 172 = .ok (.istore_n 3, 1) := by decide +kernel
theorem dX6_settles_173 : decode cX6_settles 173 = .ok (.iinc 4 1, 3) := by decide +kernel
theorem dX6_settles_176 : decode cX6_settles 176 = .ok (.goto (-111), 3) := by decide +kernel
theorem dX6_settles_179 : decode cX6_settles 179 = .ok (.iload_n 2, 1) := by decide +kernel
theorem dX6_settles_180 : decode cX6_settles 180 = .ok (.ireturn, 1) := by decide +kernel
theorem dX6_count_0 : decode cX6_count 0 = .ok (.aload_n 0, 1) := by decide +kernel
theorem dX6_count_1 : decode cX6_count 1 = .ok (.iconst 0, 1) := by decide +kernel
theorem dX6_count_2 : decode cX6_count 2 = .ok (.putfield 98, 3) := by decide +kernel
theorem dX6_count_5 : decode cX6_count 5 = .ok (.iload_n 1, 1) := by decide +kernel
theorem dX6_count_6 : decode cX6_count 6 = .ok (.tableswitch 50 0 3 #[30, 35, 40, 45], 30) := by decide +kernel
theorem dX6_count_36 : decode cX6_count 36 = .ok (.aload_n 0, 1) := by decide +kernel
theorem dX6_count_37 : decode cX6_count 37 = .ok (.getfield 148, 3) := by decide +kernel
theorem dX6_count_40 : decode cX6_count 40 = .ok (.ireturn, 1) := by decide +kernel
theorem dX6_count_41 : decode cX6_count 41 = .ok (.aload_n 0, 1) := by decide +kernel
theorem dX6_count_42 : decode cX6_count 42 = .ok (.getfield 151, 3) := by decide +kernel
theorem dX6_count_45 : decode cX6_count 45 = .ok (.ireturn, 1) := by decide +kernel
theorem dX6_count_46 : decode cX6_count 46 = .ok (.aload_n 0, 1) := by decide +kernel
theorem dX6_count_47 : decode cX6_count 47 = .ok (.getfield 158, 3) := by decide +kernel
theorem dX6_count_50 : decode cX6_count 50 = .ok (.ireturn, 1) := by decide +kernel
theorem dX6_count_51 : decode cX6_count 51 = .ok (.aload_n 0, 1) := by decide +kernel
theorem dX6_count_52 : decode cX6_count 52 = .ok (.getfield 219, 3) := by decide +kernel
theorem dX6_count_55 : decode cX6_count 55 = .ok (.ireturn, 1) := by decide +kernel
theorem dX6_count_56 : decode cX6_count 56 = .ok (.iconst (-1), 1) := by decide +kernel
theorem dX6_count_57 : decode cX6_count 57 = .ok (.ireturn, 1) := by decide +kernel
theorem dJ9_max_7cf53_0 : decode cJ9_max_7cf53 0 = .ok (.iload_n 0, 1) := by decide +kernel
theorem dJ9_max_7cf53_1 : decode cJ9_max_7cf53 1 = .ok (.iload_n 1, 1) := by decide +kernel
theorem dJ9_max_7cf53_2 : decode cJ9_max_7cf53 2 = .ok (.if_icmp .lt 7, 3) := by decide +kernel
theorem dJ9_max_7cf53_5 : decode cJ9_max_7cf53 5 = .ok (.iload_n 0, 1) := by decide +kernel
theorem dJ9_max_7cf53_6 : decode cJ9_max_7cf53 6 = .ok (.goto 4, 3) := by decide +kernel
theorem dJ9_max_7cf53_9 : decode cJ9_max_7cf53 9 = .ok (.iload_n 1, 1) := by decide +kernel
theorem dJ9_max_7cf53_10 : decode cJ9_max_7cf53 10 = .ok (.ireturn, 1) := by decide +kernel
theorem dJ9_min_7cf53_0 : decode cJ9_min_7cf53 0 = .ok (.iload_n 0, 1) := by decide +kernel
theorem dJ9_min_7cf53_1 : decode cJ9_min_7cf53 1 = .ok (.iload_n 1, 1) := by decide +kernel
theorem dJ9_min_7cf53_2 : decode cJ9_min_7cf53 2 = .ok (.if_icmp .gt 7, 3) := by decide +kernel
theorem dJ9_min_7cf53_5 : decode cJ9_min_7cf53 5 = .ok (.iload_n 0, 1) := by decide +kernel
theorem dJ9_min_7cf53_6 : decode cJ9_min_7cf53 6 = .ok (.goto 4, 3) := by decide +kernel
theorem dJ9_min_7cf53_9 : decode cJ9_min_7cf53 9 = .ok (.iload_n 1, 1) := by decide +kernel
theorem dJ9_min_7cf53_10 : decode cJ9_min_7cf53 10 = .ok (.ireturn, 1) := by decide +kernel
end
section
abbrev vwCl : List vw_C := [(RX1, TX1, 9), (RX2, TX2, 14), (RX3, TX3, 9), (RX4, TX4, 3), (RX5, TX5, 11), (RX6, TX6, 43)]
end
section
/-- the table of month lengths, and the nest word: what the calendars' methods rest on -/
def md_tab : Nat → Int32 := fun j => ([31, 28, 31, 30, 31, 30, 31, 31, 30, 31, 30, 31] : List Int32).getD j 0
def cm_ok (U : State) : Prop := (∃ t : Nat, va_Z "DayBench$Calendars" "MONTH_DAYS" "[I" (.ref t) (fun _ => False) U U.heap ∧ va_T .int t 12 (fun j => .int (md_tab j)) (fun _ => False) U U.heap) ∧ va_Nw (.methodLinkNest RX0 45 yX5_isDay "DayBench") U
theorem cm_calling {U : State} {g : JFrame} {mk : MethodId} {a : Array Value} (h : cm_ok U) : cm_ok (U.calling g mk a) := by
  obtain ⟨⟨t, h1, h2⟩, h3⟩ := h
  exact ⟨⟨t, va_Z.moved (u := U) (U := U.calling g mk a) (Vm.Alike.refl U.vm) h1, va_T.moved (u := U) (U := U.calling g mk a) (Vm.Alike.refl U.vm) h2⟩, va_Nw.same (u := U) (U := U.calling g mk a) rfl rfl h3⟩
theorem cm_blind {av : List Value} : FrameBlind (va_Pc av cm_ok) := fun _ _ _ _ q => ⟨q.1, cm_calling q.2⟩
theorem cm_warm {s U : State} (h : cm_ok s) (hU : U.heap = s.heap) (hW : s.WarmedH U.vm) : cm_ok U := by
  obtain ⟨⟨t, h1, h2⟩, h3⟩ := h
  refine ⟨⟨t, ?_, ?_⟩, va_Nw.warmM hW h3⟩
  · rw [hU]; exact va_Z.moved hW.alike h1
  · rw [hU]; exact va_T.moved hW.alike h2

def f_X0_isCalendar (p0 : Int32) : Int32 := if p0 < 0 then 0 else (if 2 < p0 then 0 else 1)
set_option maxHeartbeats 4000000 in
set_option maxRecDepth 100000 in
theorem k_X0_isCalendar (l : Launch) (p0 : Int32) : Met l yX0_isCalendar wsX0_isCalendar ({ frames := 0, cells := 0, slots := 0, locals := 0 }) (va_Pc [.int p0] cm_ok) (vp_Si (fun r => r = f_X0_isCalendar p0)) 0 0 (fun _ => False) := by
  refine Met.ofW (cc := cX0_isCalendar) (maxL := 1) (ret := (some .boolean)) (by decide) rfl ?_
  intro p e s m args below meth c s₁ B hml hv
  obtain ⟨rfl, hcm⟩ := hv
  have hx := B.exec
  have hb := B.bytes
  have hr := B.returns
  have hts := atoms_spec (ws := wsX0_isCalendar) B.pre
  have hown : s.vm.findClass RX0 = some m.cls := findClass_of_methodNamed B.named
  have hlocks := B.notSynchronized
  have hl := lv_entry ([.int p0]) (n := 1) (Nat.le_of_ble_eq_true rfl)
  rw [lg_entry_eq]
  generalize (lg_sl ([.int p0]) ++ List.replicate (1 - (lg_sl ([.int p0])).length) Slot.unset).toArray = ls at hl ⊢
  have hl : lv_has ls 1 [(0, .int p0)] := hl
  refine lv_iload_n hx hb dX0_isCalendar_0 rfl (lv_at hl 0 rfl) ?_
  refine lv_if_lt (tgt := 13) hx hb dX0_isCalendar_1 (by decide) (fun h_1 => ?_) (fun h_1 => ?_)
  · refine lv_iconst (v := 0) hx hb dX0_isCalendar_13 (by decide) ?_
    exact W.zret (v := 0) hx hb hr rfl (fun t ht hW => ⟨_, rfl, by rw [f_X0_isCalendar, if_pos h_1], ht⟩) (fun _ h => by cases h) dX0_isCalendar_14
  · refine lv_iload_n hx hb dX0_isCalendar_4 rfl (lv_at hl 0 rfl) ?_
    refine lv_iconst (v := 2) hx hb dX0_isCalendar_5 (by decide) ?_
    refine lv_icmp_gt (tgt := 13) hx hb dX0_isCalendar_6 (by decide) (fun h_2 => ?_) (fun h_2 => ?_)
    · refine lv_iconst (v := 0) hx hb dX0_isCalendar_13 (by decide) ?_
      exact W.zret (v := 0) hx hb hr rfl (fun t ht hW => ⟨_, rfl, by rw [f_X0_isCalendar, if_neg h_1, if_pos h_2], ht⟩) (fun _ h => by cases h) dX0_isCalendar_14
    · refine lv_iconst (v := 1) hx hb dX0_isCalendar_9 (by decide) ?_
      refine lv_goto (tgt := 14) hx hb dX0_isCalendar_10 (by decide) ?_
      exact W.zret (v := 1) hx hb hr rfl (fun t ht hW => ⟨_, rfl, by rw [f_X0_isCalendar, if_neg h_1, if_neg h_2], ht⟩) (fun _ h => by cases h) dX0_isCalendar_14

def f_X0_isYear (p0 p1 : Int32) : Int32 := if (f_X0_isCalendar p0) = 0 then 0 else (if p1 < 1 then 0 else (if 2699 < p1 then 0 else 1))
set_option maxHeartbeats 4000000 in
set_option maxRecDepth 100000 in
theorem k_X0_isYear (l : Launch) (p0 p1 : Int32) : Met l yX0_isYear wsX0_isYear ({ frames := 1, cells := 0, slots := 0, locals := 20 }) (va_Pc [.int p0, .int p1] cm_ok) (vp_Si (fun r => r = f_X0_isYear p0 p1)) 0 0 (fun _ => False) := by
  refine Met.ofW (cc := cX0_isYear) (maxL := 2) (ret := (some .boolean)) (by decide) rfl ?_
  intro p e s m args below meth c s₁ B hml hv
  obtain ⟨rfl, hcm⟩ := hv
  have hx := B.exec
  have hb := B.bytes
  have hr := B.returns
  have hts := atoms_spec (ws := wsX0_isYear) B.pre
  have hown : s.vm.findClass RX0 = some m.cls := findClass_of_methodNamed B.named
  have hlocks := B.notSynchronized
  have hl := lv_entry ([.int p0, .int p1]) (n := 2) (Nat.le_of_ble_eq_true rfl)
  rw [lg_entry_eq]
  generalize (lg_sl ([.int p0, .int p1]) ++ List.replicate (2 - (lg_sl ([.int p0, .int p1])).length) Slot.unset).toArray = ls at hl ⊢
  have hl : lv_has ls 2 [(0, .int p0), (1, .int p1)] := hl
  refine lv_iload_n hx hb dX0_isYear_0 rfl (lv_at hl 0 rfl) ?_
  refine vp_callSi (va_Run.run (va_runS (As := [.int p0]) (rest := []) ⟨hx, hb, hml, hown, hts⟩ (k_X0_isCalendar l p0) (va_cwS 1 hts gX0_isYear_X0_isCalendar rfl rfl rfl (by decide +kernel) ⟨Nat.le_of_ble_eq_true rfl, Nat.le_of_ble_eq_true rfl⟩) ⟨cm_blind, fun U hU hW => ⟨rfl, cm_warm hcm hU hW⟩⟩ rfl rfl hl.1 rfl (lv_room (Nat.le_of_ble_eq_true rfl)) dX0_isYear_1 ⟨Nat.le_of_ble_eq_true rfl, Nat.le_of_ble_eq_true rfl⟩)) (fun r_1 er_1 => ?_)
  subst er_1
  refine lv_if_eq (tgt := 23) hx hb dX0_isYear_4 (by decide) (fun h_2 => ?_) (fun h_2 => ?_)
  · refine lv_iconst (v := 0) hx hb dX0_isYear_23 (by decide) ?_
    exact W.zret (v := 0) hx hb hr rfl (fun t ht hW => ⟨_, rfl, by rw [f_X0_isYear, if_pos h_2], ht⟩) (fun _ h => by cases h) dX0_isYear_24
  · refine lv_iload_n hx hb dX0_isYear_7 rfl (lv_at hl 1 rfl) ?_
    refine lv_iconst (v := 1) hx hb dX0_isYear_8 (by decide) ?_
    refine lv_icmp_lt (tgt := 23) hx hb dX0_isYear_9 (by decide) (fun h_3 => ?_) (fun h_3 => ?_)
    · refine lv_iconst (v := 0) hx hb dX0_isYear_23 (by decide) ?_
      exact W.zret (v := 0) hx hb hr rfl (fun t ht hW => ⟨_, rfl, by rw [f_X0_isYear, if_neg h_2, if_pos h_3], ht⟩) (fun _ h => by cases h) dX0_isYear_24
    · refine lv_iload_n hx hb dX0_isYear_12 rfl (lv_at hl 1 rfl) ?_
      refine lv_sipush (v := 2699) hx hb dX0_isYear_13 (by decide) ?_
      refine lv_icmp_gt (tgt := 23) hx hb dX0_isYear_16 (by decide) (fun h_4 => ?_) (fun h_4 => ?_)
      · refine lv_iconst (v := 0) hx hb dX0_isYear_23 (by decide) ?_
        exact W.zret (v := 0) hx hb hr rfl (fun t ht hW => ⟨_, rfl, by rw [f_X0_isYear, if_neg h_2, if_neg h_3, if_pos h_4], ht⟩) (fun _ h => by cases h) dX0_isYear_24
      · refine lv_iconst (v := 1) hx hb dX0_isYear_19 (by decide) ?_
        refine lv_goto (tgt := 24) hx hb dX0_isYear_20 (by decide) ?_
        exact W.zret (v := 1) hx hb hr rfl (fun t ht hW => ⟨_, rfl, by rw [f_X0_isYear, if_neg h_2, if_neg h_3, if_neg h_4], ht⟩) (fun _ h => by cases h) dX0_isYear_24

def f_X0_months (p0 : Int32) : Int32 := if p0 = 2 then 13 else 12
set_option maxHeartbeats 4000000 in
set_option maxRecDepth 100000 in
theorem k_X0_months (l : Launch) (p0 : Int32) : Met l yX0_months wsX0_months ({ frames := 0, cells := 0, slots := 0, locals := 0 }) (va_Pc [.int p0] cm_ok) (vp_Si (fun r => r = f_X0_months p0)) 0 0 (fun _ => False) := by
  refine Met.ofW (cc := cX0_months) (maxL := 1) (ret := (some .int)) (by decide) rfl ?_
  intro p e s m args below meth c s₁ B hml hv
  obtain ⟨rfl, hcm⟩ := hv
  have hx := B.exec
  have hb := B.bytes
  have hr := B.returns
  have hts := atoms_spec (ws := wsX0_months) B.pre
  have hown : s.vm.findClass RX0 = some m.cls := findClass_of_methodNamed B.named
  have hlocks := B.notSynchronized
  have hl := lv_entry ([.int p0]) (n := 1) (Nat.le_of_ble_eq_true rfl)
  rw [lg_entry_eq]
  generalize (lg_sl ([.int p0]) ++ List.replicate (1 - (lg_sl ([.int p0])).length) Slot.unset).toArray = ls at hl ⊢
  have hl : lv_has ls 1 [(0, .int p0)] := hl
  refine lv_iload_n hx hb dX0_months_0 rfl (lv_at hl 0 rfl) ?_
  refine lv_iconst (v := 2) hx hb dX0_months_1 (by decide) ?_
  refine lv_icmp_ne (tgt := 10) hx hb dX0_months_2 (by decide) (fun h_1 => ?_) (fun h_1 => ?_)
  · refine lv_bipush (v := 12) hx hb dX0_months_10 (by decide) ?_
    exact W.iret (v := 12) hx hb hr (fun t ht hW => ⟨_, rfl, by rw [f_X0_months, if_neg h_1], ht⟩) (fun _ h => by cases h) dX0_months_12
  · refine lv_bipush (v := 13) hx hb dX0_months_5 (by decide) ?_
    refine lv_goto (tgt := 12) hx hb dX0_months_7 (by decide) ?_
    exact W.iret (v := 13) hx hb hr (fun t ht hW => ⟨_, rfl, by rw [f_X0_months, if_pos h_1], ht⟩) (fun _ h => by cases h) dX0_months_12

def f_X0_isMonth (p0 p1 p2 : Int32) : Int32 := if (f_X0_isYear p0 p1) = 0 then 0 else (if p2 < 1 then 0 else (if (f_X0_months p0) < p2 then 0 else 1))
set_option maxHeartbeats 4000000 in
set_option maxRecDepth 100000 in
theorem k_X0_isMonth (l : Launch) (p0 p1 p2 : Int32) : Met l yX0_isMonth wsX0_isMonth ({ frames := 2, cells := 0, slots := 0, locals := 41 }) (va_Pc [.int p0, .int p1, .int p2] cm_ok) (vp_Si (fun r => r = f_X0_isMonth p0 p1 p2)) 0 0 (fun _ => False) := by
  refine Met.ofW (cc := cX0_isMonth) (maxL := 3) (ret := (some .boolean)) (by decide) rfl ?_
  intro p e s m args below meth c s₁ B hml hv
  obtain ⟨rfl, hcm⟩ := hv
  have hx := B.exec
  have hb := B.bytes
  have hr := B.returns
  have hts := atoms_spec (ws := wsX0_isMonth) B.pre
  have hown : s.vm.findClass RX0 = some m.cls := findClass_of_methodNamed B.named
  have hlocks := B.notSynchronized
  have hl := lv_entry ([.int p0, .int p1, .int p2]) (n := 3) (Nat.le_of_ble_eq_true rfl)
  rw [lg_entry_eq]
  generalize (lg_sl ([.int p0, .int p1, .int p2]) ++ List.replicate (3 - (lg_sl ([.int p0, .int p1, .int p2])).length) Slot.unset).toArray = ls at hl ⊢
  have hl : lv_has ls 3 [(0, .int p0), (1, .int p1), (2, .int p2)] := hl
  refine lv_iload_n hx hb dX0_isMonth_0 rfl (lv_at hl 0 rfl) ?_
  refine lv_iload_n hx hb dX0_isMonth_1 rfl (lv_at hl 1 rfl) ?_
  refine vp_callSi (va_Run.run (va_runS (As := [.int p0, .int p1]) (rest := []) ⟨hx, hb, hml, hown, hts⟩ (k_X0_isYear l p0 p1) (va_cwS 2 hts gX0_isMonth_X0_isYear rfl rfl rfl (by decide +kernel) ⟨Nat.le_of_ble_eq_true rfl, Nat.le_of_ble_eq_true rfl⟩) ⟨cm_blind, fun U hU hW => ⟨rfl, cm_warm hcm hU hW⟩⟩ rfl rfl hl.1 rfl (lv_room (Nat.le_of_ble_eq_true rfl)) dX0_isMonth_2 ⟨Nat.le_of_ble_eq_true rfl, Nat.le_of_ble_eq_true rfl⟩)) (fun r_1 er_1 => ?_)
  subst er_1
  refine lv_if_eq (tgt := 25) hx hb dX0_isMonth_5 (by decide) (fun h_2 => ?_) (fun h_2 => ?_)
  · refine lv_iconst (v := 0) hx hb dX0_isMonth_25 (by decide) ?_
    exact W.zret (v := 0) hx hb hr rfl (fun t ht hW => ⟨_, rfl, by rw [f_X0_isMonth, if_pos h_2], ht⟩) (fun _ h => by cases h) dX0_isMonth_26
  · refine lv_iload_n hx hb dX0_isMonth_8 rfl (lv_at hl 2 rfl) ?_
    refine lv_iconst (v := 1) hx hb dX0_isMonth_9 (by decide) ?_
    refine lv_icmp_lt (tgt := 25) hx hb dX0_isMonth_10 (by decide) (fun h_3 => ?_) (fun h_3 => ?_)
    · refine lv_iconst (v := 0) hx hb dX0_isMonth_25 (by decide) ?_
      exact W.zret (v := 0) hx hb hr rfl (fun t ht hW => ⟨_, rfl, by rw [f_X0_isMonth, if_neg h_2, if_pos h_3], ht⟩) (fun _ h => by cases h) dX0_isMonth_26
    · refine lv_iload_n hx hb dX0_isMonth_13 rfl (lv_at hl 2 rfl) ?_
      refine lv_iload_n hx hb dX0_isMonth_14 rfl (lv_at hl 0 rfl) ?_
      refine vp_callSi (va_Run.run (va_runS (As := [.int p0]) (rest := [.int p2]) ⟨hx, hb, hml, hown, hts⟩ (k_X0_months l p0) (va_cwS 1 hts gX0_isMonth_X0_months rfl rfl rfl (by decide +kernel) ⟨Nat.le_of_ble_eq_true rfl, Nat.le_of_ble_eq_true rfl⟩) ⟨cm_blind, fun U hU hW => ⟨rfl, cm_warm hcm hU hW⟩⟩ rfl rfl hl.1 rfl (lv_room (Nat.le_of_ble_eq_true rfl)) dX0_isMonth_15 ⟨Nat.le_of_ble_eq_true rfl, Nat.le_of_ble_eq_true rfl⟩)) (fun r_4 er_4 => ?_)
      subst er_4
      refine lv_icmp_gt (tgt := 25) hx hb dX0_isMonth_18 (by decide) (fun h_5 => ?_) (fun h_5 => ?_)
      · refine lv_iconst (v := 0) hx hb dX0_isMonth_25 (by decide) ?_
        exact W.zret (v := 0) hx hb hr rfl (fun t ht hW => ⟨_, rfl, by rw [f_X0_isMonth, if_neg h_2, if_neg h_3, if_pos h_5], ht⟩) (fun _ h => by cases h) dX0_isMonth_26
      · refine lv_iconst (v := 1) hx hb dX0_isMonth_21 (by decide) ?_
        refine lv_goto (tgt := 26) hx hb dX0_isMonth_22 (by decide) ?_
        exact W.zret (v := 1) hx hb hr rfl (fun t ht hW => ⟨_, rfl, by rw [f_X0_isMonth, if_neg h_2, if_neg h_3, if_neg h_5], ht⟩) (fun _ h => by cases h) dX0_isMonth_26

def f_X0_isLeap (p0 p1 : Int32) : Int32 := if p0 = 2 then 0 else (if (p1 - p1 / 4 * 4) = 0 then (if p0 = 1 then 1 else (if (p1 - p1 / 100 * 100) = 0 then (if (p1 - p1 / 400 * 400) = 0 then 1 else 0) else 1)) else 0)
set_option maxHeartbeats 4000000 in
set_option maxRecDepth 100000 in
theorem k_X0_isLeap (l : Launch) (p0 p1 : Int32) : Met l yX0_isLeap wsX0_isLeap ({ frames := 0, cells := 0, slots := 0, locals := 0 }) (va_Pc [.int p0, .int p1] cm_ok) (vp_Si (fun r => r = f_X0_isLeap p0 p1)) 0 0 (fun _ => False) := by
  refine Met.ofW (cc := cX0_isLeap) (maxL := 2) (ret := (some .boolean)) (by decide) rfl ?_
  intro p e s m args below meth c s₁ B hml hv
  obtain ⟨rfl, hcm⟩ := hv
  have hx := B.exec
  have hb := B.bytes
  have hr := B.returns
  have hts := atoms_spec (ws := wsX0_isLeap) B.pre
  have hown : s.vm.findClass RX0 = some m.cls := findClass_of_methodNamed B.named
  have hlocks := B.notSynchronized
  have hl := lv_entry ([.int p0, .int p1]) (n := 2) (Nat.le_of_ble_eq_true rfl)
  rw [lg_entry_eq]
  generalize (lg_sl ([.int p0, .int p1]) ++ List.replicate (2 - (lg_sl ([.int p0, .int p1])).length) Slot.unset).toArray = ls at hl ⊢
  have hl : lv_has ls 2 [(0, .int p0), (1, .int p1)] := hl
  refine lv_iload_n hx hb dX0_isLeap_0 rfl (lv_at hl 0 rfl) ?_
  refine lv_iconst (v := 2) hx hb dX0_isLeap_1 (by decide) ?_
  refine lv_icmp_eq (tgt := 11) hx hb dX0_isLeap_2 (by decide) (fun h_1 => ?_) (fun h_1 => ?_)
  · refine lv_iconst (v := 0) hx hb dX0_isLeap_11 (by decide) ?_
    exact W.zret (v := 0) hx hb hr rfl (fun t ht hW => ⟨_, rfl, by rw [f_X0_isLeap, if_pos h_1], ht⟩) (fun _ h => by cases h) dX0_isLeap_12
  · refine lv_iload_n hx hb dX0_isLeap_5 rfl (lv_at hl 1 rfl) ?_
    refine lv_iconst (v := 4) hx hb dX0_isLeap_6 (by decide) ?_
    refine lv_irem hx hb dX0_isLeap_7 (by decide) ?_
    refine lv_if_eq (tgt := 13) hx hb dX0_isLeap_8 (by decide) (fun h_2 => ?_) (fun h_2 => ?_)
    · refine lv_iload_n hx hb dX0_isLeap_13 rfl (lv_at hl 0 rfl) ?_
      refine lv_iconst (v := 1) hx hb dX0_isLeap_14 (by decide) ?_
      refine lv_icmp_eq (tgt := 33) hx hb dX0_isLeap_15 (by decide) (fun h_3 => ?_) (fun h_3 => ?_)
      · refine lv_iconst (v := 1) hx hb dX0_isLeap_33 (by decide) ?_
        refine lv_goto (tgt := 38) hx hb dX0_isLeap_34 (by decide) ?_
        exact W.zret (v := 1) hx hb hr rfl (fun t ht hW => ⟨_, rfl, by rw [f_X0_isLeap, if_neg h_1, if_pos h_2, if_pos h_3], ht⟩) (fun _ h => by cases h) dX0_isLeap_38
      · refine lv_iload_n hx hb dX0_isLeap_18 rfl (lv_at hl 1 rfl) ?_
        refine lv_bipush (v := 100) hx hb dX0_isLeap_19 (by decide) ?_
        refine lv_irem hx hb dX0_isLeap_21 (by decide) ?_
        refine lv_if_ne (tgt := 33) hx hb dX0_isLeap_22 (by decide) (fun h_4 => ?_) (fun h_4 => ?_)
        · refine lv_iconst (v := 1) hx hb dX0_isLeap_33 (by decide) ?_
          refine lv_goto (tgt := 38) hx hb dX0_isLeap_34 (by decide) ?_
          exact W.zret (v := 1) hx hb hr rfl (fun t ht hW => ⟨_, rfl, by rw [f_X0_isLeap, if_neg h_1, if_pos h_2, if_neg h_3, if_neg h_4], ht⟩) (fun _ h => by cases h) dX0_isLeap_38
        · refine lv_iload_n hx hb dX0_isLeap_25 rfl (lv_at hl 1 rfl) ?_
          refine lv_sipush (v := 400) hx hb dX0_isLeap_26 (by decide) ?_
          refine lv_irem hx hb dX0_isLeap_29 (by decide) ?_
          refine lv_if_ne (tgt := 37) hx hb dX0_isLeap_30 (by decide) (fun h_5 => ?_) (fun h_5 => ?_)
          · refine lv_iconst (v := 0) hx hb dX0_isLeap_37 (by decide) ?_
            exact W.zret (v := 0) hx hb hr rfl (fun t ht hW => ⟨_, rfl, by rw [f_X0_isLeap, if_neg h_1, if_pos h_2, if_neg h_3, if_pos h_4, if_neg h_5], ht⟩) (fun _ h => by cases h) dX0_isLeap_38
          · refine lv_iconst (v := 1) hx hb dX0_isLeap_33 (by decide) ?_
            refine lv_goto (tgt := 38) hx hb dX0_isLeap_34 (by decide) ?_
            exact W.zret (v := 1) hx hb hr rfl (fun t ht hW => ⟨_, rfl, by rw [f_X0_isLeap, if_neg h_1, if_pos h_2, if_neg h_3, if_pos h_4, if_pos h_5], ht⟩) (fun _ h => by cases h) dX0_isLeap_38
    · refine lv_iconst (v := 0) hx hb dX0_isLeap_11 (by decide) ?_
      exact W.zret (v := 0) hx hb hr rfl (fun t ht hW => ⟨_, rfl, by rw [f_X0_isLeap, if_neg h_1, if_neg h_2], ht⟩) (fun _ h => by cases h) dX0_isLeap_12

theorem ix_sub1 {x : Int32} (h1 : ¬ x < 1) (h2 : x ≤ 12) : vp_in (x - 1) 12 := by
  rw [vp_in_iff]
  rw [Int32.lt_iff_toInt_lt] at h1
  rw [Int32.le_iff_toInt_le] at h2
  have e1 : (1 : Int32).toInt = 1 := rfl
  have e2 : (12 : Int32).toInt = 12 := rfl
  rw [e1] at h1
  rw [e2] at h2
  have e : (x - 1).toInt = x.toInt - 1 := by
    rw [Int32.toInt_sub, e1]
    rw [Int.bmod_eq_of_le (by omega) (by omega)]
  omega

def f_X0_monthDays (p0 p1 p2 : Int32) : Int32 := if p0 = 2 then (if p2 = 13 then 5 else 30) else (if p2 < 1 then 0 else (if p2 ≤ 12 then (if p2 = 2 then (if (f_X0_isLeap p0 p1) = 0 then (md_tab (p2 - 1).toNatClampNeg) else 29) else (md_tab (p2 - 1).toNatClampNeg)) else 0))
set_option maxHeartbeats 4000000 in
set_option maxRecDepth 100000 in
theorem k_X0_monthDays (l : Launch) (p0 p1 p2 : Int32) : Met l yX0_monthDays wsX0_monthDays ({ frames := 1, cells := 0, slots := 0, locals := 21 }) (va_Pc [.int p0, .int p1, .int p2] cm_ok) (vp_Si (fun r => r = f_X0_monthDays p0 p1 p2)) 0 0 (fun _ => False) := by
  refine Met.ofW (cc := cX0_monthDays) (maxL := 3) (ret := (some .int)) (by decide) rfl ?_
  intro p e s m args below meth c s₁ B hml hv
  obtain ⟨rfl, hcm⟩ := hv
  have hx := B.exec
  have hb := B.bytes
  have hr := B.returns
  have hts := atoms_spec (ws := wsX0_monthDays) B.pre
  have hown : s.vm.findClass RX0 = some m.cls := findClass_of_methodNamed B.named
  have hlocks := B.notSynchronized
  have hl := lv_entry ([.int p0, .int p1, .int p2]) (n := 3) (Nat.le_of_ble_eq_true rfl)
  rw [lg_entry_eq]
  generalize (lg_sl ([.int p0, .int p1, .int p2]) ++ List.replicate (3 - (lg_sl ([.int p0, .int p1, .int p2])).length) Slot.unset).toArray = ls at hl ⊢
  have hl : lv_has ls 3 [(0, .int p0), (1, .int p1), (2, .int p2)] := hl
  obtain ⟨⟨tt, hZ, hT⟩, hN⟩ := id hcm
  have hS : va_S (fun _ => False) s.heap s.heap [] := va_S.rf
  refine lv_iload_n hx hb dX0_monthDays_0 rfl (lv_at hl 0 rfl) ?_
  refine lv_iconst (v := 2) hx hb dX0_monthDays_1 (by decide) ?_
  refine lv_icmp_ne (tgt := 18) hx hb dX0_monthDays_2 (by decide) (fun h_1 => ?_) (fun h_1 => ?_)
  · refine lv_iload_n hx hb dX0_monthDays_18 rfl (lv_at hl 2 rfl) ?_
    refine lv_iconst (v := 1) hx hb dX0_monthDays_19 (by decide) ?_
    refine lv_icmp_lt (tgt := 31) hx hb dX0_monthDays_20 (by decide) (fun h_2 => ?_) (fun h_2 => ?_)
    · refine lv_iconst (v := 0) hx hb dX0_monthDays_31 (by decide) ?_
      exact W.iret (v := 0) hx hb hr (fun t ht hW => ⟨_, rfl, by rw [f_X0_monthDays, if_neg h_1, if_pos h_2], ht⟩) (fun _ h => by cases h) dX0_monthDays_32
    · refine lv_iload_n hx hb dX0_monthDays_23 rfl (lv_at hl 2 rfl) ?_
      refine va_gets (own := RX0) (ref := "DayBench$Calendars") hx hb hZ hS hown (hts (.fieldLink RX0 23 "DayBench$Calendars" "MONTH_DAYS" "[I") (by decide +kernel)) (fun _ h9 => h9) dX0_monthDays_24 ?_
      refine va_tlen (v := 12) hx hb hT hS rfl dX0_monthDays_27 ?_
      refine lv_icmp_le (tgt := 33) hx hb dX0_monthDays_28 (by decide) (fun h_3 => ?_) (fun h_3 => ?_)
      · refine lv_iload_n hx hb dX0_monthDays_33 rfl (lv_at hl 2 rfl) ?_
        refine lv_iconst (v := 2) hx hb dX0_monthDays_34 (by decide) ?_
        refine lv_icmp_ne (tgt := 51) hx hb dX0_monthDays_35 (by decide) (fun h_4 => ?_) (fun h_4 => ?_)
        · refine va_gets (own := RX0) (ref := "DayBench$Calendars") hx hb hZ hS hown (hts (.fieldLink RX0 23 "DayBench$Calendars" "MONTH_DAYS" "[I") (by decide +kernel)) (fun _ h9 => h9) dX0_monthDays_51 ?_
          refine lv_iload_n hx hb dX0_monthDays_54 rfl (lv_at hl 2 rfl) ?_
          refine lv_iconst (v := 1) hx hb dX0_monthDays_55 (by decide) ?_
          refine lv_isub hx hb dX0_monthDays_56 ?_
          refine va_ti (v := .int (md_tab (p2 - 1).toNatClampNeg)) hx hb hT hS (ix_sub1 h_2 h_3) rfl dX0_monthDays_57 ?_
          exact W.iret (v := md_tab (p2 - 1).toNatClampNeg) hx hb hr (fun t ht hW => ⟨_, rfl, by rw [f_X0_monthDays, if_neg h_1, if_neg h_2, if_pos h_3, if_neg h_4], ht⟩) (fun _ h => by cases h) dX0_monthDays_58
        · refine lv_iload_n hx hb dX0_monthDays_38 rfl (lv_at hl 0 rfl) ?_
          refine lv_iload_n hx hb dX0_monthDays_39 rfl (lv_at hl 1 rfl) ?_
          refine vp_callSi (va_Run.run (va_runS (As := [.int p0, .int p1]) (rest := []) ⟨hx, hb, hml, hown, hts⟩ (k_X0_isLeap l p0 p1) (va_cwS 2 hts gX0_monthDays_X0_isLeap rfl rfl rfl (by decide +kernel) ⟨Nat.le_of_ble_eq_true rfl, Nat.le_of_ble_eq_true rfl⟩) ⟨cm_blind, fun U hU hW => ⟨rfl, cm_warm hcm hU hW⟩⟩ rfl rfl hl.1 rfl (lv_room (Nat.le_of_ble_eq_true rfl)) dX0_monthDays_40 ⟨Nat.le_of_ble_eq_true rfl, Nat.le_of_ble_eq_true rfl⟩)) (fun r_5 er_5 => ?_)
          subst er_5
          refine lv_if_eq (tgt := 51) hx hb dX0_monthDays_43 (by decide) (fun h_6 => ?_) (fun h_6 => ?_)
          · refine va_gets (own := RX0) (ref := "DayBench$Calendars") hx hb hZ hS hown (hts (.fieldLink RX0 23 "DayBench$Calendars" "MONTH_DAYS" "[I") (by decide +kernel)) (fun _ h9 => h9) dX0_monthDays_51 ?_
            refine lv_iload_n hx hb dX0_monthDays_54 rfl (lv_at hl 2 rfl) ?_
            refine lv_iconst (v := 1) hx hb dX0_monthDays_55 (by decide) ?_
            refine lv_isub hx hb dX0_monthDays_56 ?_
            refine va_ti (v := .int (md_tab (p2 - 1).toNatClampNeg)) hx hb hT hS (ix_sub1 h_2 h_3) rfl dX0_monthDays_57 ?_
            exact W.iret (v := md_tab (p2 - 1).toNatClampNeg) hx hb hr (fun t ht hW => ⟨_, rfl, by rw [f_X0_monthDays, if_neg h_1, if_neg h_2, if_pos h_3, if_pos h_4, if_pos h_6], ht⟩) (fun _ h => by cases h) dX0_monthDays_58
          · refine lv_bipush (v := 29) hx hb dX0_monthDays_46 (by decide) ?_
            refine lv_goto (tgt := 58) hx hb dX0_monthDays_48 (by decide) ?_
            exact W.iret (v := 29) hx hb hr (fun t ht hW => ⟨_, rfl, by rw [f_X0_monthDays, if_neg h_1, if_neg h_2, if_pos h_3, if_pos h_4, if_neg h_6], ht⟩) (fun _ h => by cases h) dX0_monthDays_58
      · refine lv_iconst (v := 0) hx hb dX0_monthDays_31 (by decide) ?_
        exact W.iret (v := 0) hx hb hr (fun t ht hW => ⟨_, rfl, by rw [f_X0_monthDays, if_neg h_1, if_neg h_2, if_neg h_3], ht⟩) (fun _ h => by cases h) dX0_monthDays_32
  · refine lv_iload_n hx hb dX0_monthDays_5 rfl (lv_at hl 2 rfl) ?_
    refine lv_bipush (v := 13) hx hb dX0_monthDays_6 (by decide) ?_
    refine lv_icmp_ne (tgt := 15) hx hb dX0_monthDays_8 (by decide) (fun h_7 => ?_) (fun h_7 => ?_)
    · refine lv_bipush (v := 30) hx hb dX0_monthDays_15 (by decide) ?_
      exact W.iret (v := 30) hx hb hr (fun t ht hW => ⟨_, rfl, by rw [f_X0_monthDays, if_pos h_1, if_neg h_7], ht⟩) (fun _ h => by cases h) dX0_monthDays_17
    · refine lv_iconst (v := 5) hx hb dX0_monthDays_11 (by decide) ?_
      refine lv_goto (tgt := 17) hx hb dX0_monthDays_12 (by decide) ?_
      exact W.iret (v := 5) hx hb hr (fun t ht hW => ⟨_, rfl, by rw [f_X0_monthDays, if_pos h_1, if_pos h_7], ht⟩) (fun _ h => by cases h) dX0_monthDays_17

def f_X0_yearStart (p0 p1 : Int32) : Int32 := if p0 = 0 then ((((365 * (p1 - 1)) + ((p1 - 1) / 4)) - ((p1 - 1) / 100)) + ((p1 - 1) / 400)) else (if p0 = 1 then (((365 * (p1 - 1)) + ((p1 - 1) / 4)) - 2) else (365 * (p1 - 1)))
set_option maxHeartbeats 4000000 in
set_option maxRecDepth 100000 in
theorem k_X0_yearStart (l : Launch) (p0 p1 : Int32) : Met l yX0_yearStart wsX0_yearStart ({ frames := 0, cells := 0, slots := 0, locals := 0 }) (va_Pc [.int p0, .int p1] cm_ok) (vp_Si (fun r => r = f_X0_yearStart p0 p1)) 0 0 (fun _ => False) := by
  refine Met.ofW (cc := cX0_yearStart) (maxL := 4) (ret := (some .int)) (by decide) rfl ?_
  intro p e s m args below meth c s₁ B hml hv
  obtain ⟨rfl, hcm⟩ := hv
  have hx := B.exec
  have hb := B.bytes
  have hr := B.returns
  have hts := atoms_spec (ws := wsX0_yearStart) B.pre
  have hown : s.vm.findClass RX0 = some m.cls := findClass_of_methodNamed B.named
  have hlocks := B.notSynchronized
  have hl := lv_entry ([.int p0, .int p1]) (n := 4) (Nat.le_of_ble_eq_true rfl)
  rw [lg_entry_eq]
  generalize (lg_sl ([.int p0, .int p1]) ++ List.replicate (4 - (lg_sl ([.int p0, .int p1])).length) Slot.unset).toArray = ls at hl ⊢
  have hl : lv_has ls 4 [(0, .int p0), (1, .int p1)] := hl
  refine lv_iload_n hx hb dX0_yearStart_0 rfl (lv_at hl 1 rfl) ?_
  refine lv_iconst (v := 1) hx hb dX0_yearStart_1 (by decide) ?_
  refine lv_isub hx hb dX0_yearStart_2 ?_
  refine lv_istore_n (lv' := [(2, .int (p1 - 1)), (0, .int p0), (1, .int p1)]) hx hb dX0_yearStart_3 rfl hl (by decide) rfl (fun ls hl => ?_)
  refine lv_sipush (v := 365) hx hb dX0_yearStart_4 (by decide) ?_
  refine lv_iload_n hx hb dX0_yearStart_7 rfl (lv_at hl 0 rfl) ?_
  refine lv_imul hx hb dX0_yearStart_8 ?_
  refine lv_istore_n (lv' := [(3, .int (365 * (p1 - 1))), (2, .int (p1 - 1)), (0, .int p0), (1, .int p1)]) hx hb dX0_yearStart_9 rfl hl (by decide) rfl (fun ls hl => ?_)
  refine lv_iload_n hx hb dX0_yearStart_10 rfl (lv_at hl 2 rfl) ?_
  refine lv_if_ne (tgt := 31) hx hb dX0_yearStart_11 (by decide) (fun h_1 => ?_) (fun h_1 => ?_)
  · refine lv_iload_n hx hb dX0_yearStart_31 rfl (lv_at hl 2 rfl) ?_
    refine lv_iconst (v := 1) hx hb dX0_yearStart_32 (by decide) ?_
    refine lv_icmp_ne (tgt := 46) hx hb dX0_yearStart_33 (by decide) (fun h_2 => ?_) (fun h_2 => ?_)
    · refine lv_iload_n hx hb dX0_yearStart_46 rfl (lv_at hl 0 rfl) ?_
      exact W.iret (v := 365 * (p1 - 1)) hx hb hr (fun t ht hW => ⟨_, rfl, by rw [f_X0_yearStart, if_neg h_1, if_neg h_2], ht⟩) (fun _ h => by cases h) dX0_yearStart_47
    · refine lv_iload_n hx hb dX0_yearStart_36 rfl (lv_at hl 0 rfl) ?_
      refine lv_iload_n hx hb dX0_yearStart_37 rfl (lv_at hl 1 rfl) ?_
      refine lv_iconst (v := 4) hx hb dX0_yearStart_38 (by decide) ?_
      refine lv_idiv hx hb dX0_yearStart_39 (by decide) ?_
      refine lv_iadd hx hb dX0_yearStart_40 ?_
      refine lv_iconst (v := 2) hx hb dX0_yearStart_41 (by decide) ?_
      refine lv_isub hx hb dX0_yearStart_42 ?_
      refine lv_goto (tgt := 47) hx hb dX0_yearStart_43 (by decide) ?_
      exact W.iret (v := ((365 * (p1 - 1)) + ((p1 - 1) / 4)) - 2) hx hb hr (fun t ht hW => ⟨_, rfl, by rw [f_X0_yearStart, if_neg h_1, if_pos h_2], ht⟩) (fun _ h => by cases h) dX0_yearStart_47
  · refine lv_iload_n hx hb dX0_yearStart_14 rfl (lv_at hl 0 rfl) ?_
    refine lv_iload_n hx hb dX0_yearStart_15 rfl (lv_at hl 1 rfl) ?_
    refine lv_iconst (v := 4) hx hb dX0_yearStart_16 (by decide) ?_
    refine lv_idiv hx hb dX0_yearStart_17 (by decide) ?_
    refine lv_iadd hx hb dX0_yearStart_18 ?_
    refine lv_iload_n hx hb dX0_yearStart_19 rfl (lv_at hl 1 rfl) ?_
    refine lv_bipush (v := 100) hx hb dX0_yearStart_20 (by decide) ?_
    refine lv_idiv hx hb dX0_yearStart_22 (by decide) ?_
    refine lv_isub hx hb dX0_yearStart_23 ?_
    refine lv_iload_n hx hb dX0_yearStart_24 rfl (lv_at hl 1 rfl) ?_
    refine lv_sipush (v := 400) hx hb dX0_yearStart_25 (by decide) ?_
    refine lv_idiv hx hb dX0_yearStart_28 (by decide) ?_
    refine lv_iadd hx hb dX0_yearStart_29 ?_
    exact W.iret (v := (((365 * (p1 - 1)) + ((p1 - 1) / 4)) - ((p1 - 1) / 100)) + ((p1 - 1) / 400)) hx hb hr (fun t ht hW => ⟨_, rfl, by rw [f_X0_yearStart, if_pos h_1], ht⟩) (fun _ h => by cases h) dX0_yearStart_30

def f_X5_isDay (p0 : Int32) : Int32 := if p0 < 0 then 0 else (if 985999 < p0 then 0 else 1)
set_option maxHeartbeats 4000000 in
set_option maxRecDepth 100000 in
theorem k_X5_isDay (l : Launch) (p0 : Int32) : Met l yX5_isDay wsX5_isDay ({ frames := 0, cells := 0, slots := 0, locals := 0 }) (va_Pc [.int p0] cm_ok) (vp_Si (fun r => r = f_X5_isDay p0)) 0 0 (fun _ => False) := by
  refine Met.ofW (cc := cX5_isDay) (maxL := 1) (ret := (some .boolean)) (by decide) rfl ?_
  intro p e s m args below meth c s₁ B hml hv
  obtain ⟨rfl, hcm⟩ := hv
  have hx := B.exec
  have hb := B.bytes
  have hr := B.returns
  have hts := atoms_spec (ws := wsX5_isDay) B.pre
  have hown : s.vm.findClass RX5 = some m.cls := findClass_of_methodNamed B.named
  have hlocks := B.notSynchronized
  have hl := lv_entry ([.int p0]) (n := 1) (Nat.le_of_ble_eq_true rfl)
  rw [lg_entry_eq]
  generalize (lg_sl ([.int p0]) ++ List.replicate (1 - (lg_sl ([.int p0])).length) Slot.unset).toArray = ls at hl ⊢
  have hl : lv_has ls 1 [(0, .int p0)] := hl
  refine lv_iload_n hx hb dX5_isDay_0 rfl (lv_at hl 0 rfl) ?_
  refine lv_if_lt (tgt := 14) hx hb dX5_isDay_1 (by decide) (fun h_1 => ?_) (fun h_1 => ?_)
  · refine lv_iconst (v := 0) hx hb dX5_isDay_14 (by decide) ?_
    exact W.zret (v := 0) hx hb hr rfl (fun t ht hW => ⟨_, rfl, by rw [f_X5_isDay, if_pos h_1], ht⟩) (fun _ h => by cases h) dX5_isDay_15
  · refine lv_iload_n hx hb dX5_isDay_4 rfl (lv_at hl 0 rfl) ?_
    refine lv_ldc (own := RX5) (v := 985999) hx hb hown (hts (.constant RX5 225 (985999)) (by decide +kernel)) dX5_isDay_5 ?_
    refine lv_icmp_gt (tgt := 14) hx hb dX5_isDay_7 (by decide) (fun h_2 => ?_) (fun h_2 => ?_)
    · refine lv_iconst (v := 0) hx hb dX5_isDay_14 (by decide) ?_
      exact W.zret (v := 0) hx hb hr rfl (fun t ht hW => ⟨_, rfl, by rw [f_X5_isDay, if_neg h_1, if_pos h_2], ht⟩) (fun _ h => by cases h) dX5_isDay_15
    · refine lv_iconst (v := 1) hx hb dX5_isDay_10 (by decide) ?_
      refine lv_goto (tgt := 15) hx hb dX5_isDay_11 (by decide) ?_
      exact W.zret (v := 1) hx hb hr rfl (fun t ht hW => ⟨_, rfl, by rw [f_X5_isDay, if_neg h_1, if_neg h_2], ht⟩) (fun _ h => by cases h) dX5_isDay_15

def ms_C (c y : Int32) : Nat → Int32
  | 0 => f_X0_yearStart c y
  | k + 1 => ms_C c y k + f_X0_monthDays c y (nI (k + 1))

set_option maxHeartbeats 4000000 in
set_option maxRecDepth 100000 in
theorem k_X0_monthStart (l : Launch) (p0 p1 p2 : Int32) (M : Nat) (hM : M < 13) (h2 : p2 = nI (M + 1)) : Met l yX0_monthStart wsX0_monthStart ({ frames := 2, cells := 0, slots := 0, locals := 43 }) (va_Pc [.int p0, .int p1, .int p2] cm_ok) (vp_Si (fun r => r = ms_C p0 p1 M)) 0 0 (fun _ => False) := by
  refine Met.ofW (cc := cX0_monthStart) (maxL := 5) (ret := (some .int)) (by decide) rfl ?_
  intro p e s m args below meth c s₁ B hml hv
  obtain ⟨rfl, hcm⟩ := hv
  have hx := B.exec
  have hb := B.bytes
  have hr := B.returns
  have hts := atoms_spec (ws := wsX0_monthStart) B.pre
  have hown : s.vm.findClass RX0 = some m.cls := findClass_of_methodNamed B.named
  have hlocks := B.notSynchronized
  have hl := lv_entry ([.int p0, .int p1, .int p2]) (n := 5) (Nat.le_of_ble_eq_true rfl)
  rw [lg_entry_eq]
  generalize (lg_sl ([.int p0, .int p1, .int p2]) ++ List.replicate (5 - (lg_sl ([.int p0, .int p1, .int p2])).length) Slot.unset).toArray = ls at hl ⊢
  have hl : lv_has ls 5 [(0, .int p0), (1, .int p1), (2, .int p2)] := hl
  refine lv_iload_n hx hb dX0_monthStart_0 rfl (lv_at hl 0 rfl) ?_
  refine lv_iload_n hx hb dX0_monthStart_1 rfl (lv_at hl 1 rfl) ?_
  refine vp_callSi (va_Run.run (va_runS (As := [.int p0, .int p1]) (rest := []) ⟨hx, hb, hml, hown, hts⟩ (k_X0_yearStart l p0 p1) (va_cwS 2 hts gX0_monthStart_X0_yearStart rfl rfl rfl (by decide +kernel) ⟨Nat.le_of_ble_eq_true rfl, Nat.le_of_ble_eq_true rfl⟩) ⟨cm_blind, fun U hU hW => ⟨rfl, cm_warm hcm hU hW⟩⟩ rfl rfl hl.1 rfl (lv_room (Nat.le_of_ble_eq_true rfl)) dX0_monthStart_2 ⟨Nat.le_of_ble_eq_true rfl, Nat.le_of_ble_eq_true rfl⟩)) (fun r_1 er_1 => ?_)
  subst er_1
  refine lv_istore_n (lv' := [(3, .int (f_X0_yearStart p0 p1)), (0, .int p0), (1, .int p1), (2, .int p2)]) hx hb dX0_monthStart_5 rfl hl (by decide) rfl (fun ls hl => ?_)
  refine lv_iconst (v := 1) hx hb dX0_monthStart_6 (by decide) ?_
  refine lv_istore (lv' := [(4, .int 1), (3, .int (f_X0_yearStart p0 p1)), (0, .int p0), (1, .int p1), (2, .int p2)]) hx hb dX0_monthStart_7 hl (by decide) rfl (fun ls hl => ?_)
  have hloop : ∀ (n j : Nat), j ≤ M → M < j + n → ∀ (ls : Array Slot), lv_has ls 5 [(4, .int (nI (j + 1))), (3, .int (ms_C p0 p1 j)), (0, .int p0), (1, .int p1), (2, .int p2)] → W p l e (headSpec wsX0_monthStart ({ frames := 2, cells := 0, slots := 0, locals := 43 })).room s m [.int p0, .int p1, .int p2].toArray below meth c s.heap [] 0 0 (MQ below (vp_Si (fun r => r = ms_C p0 p1 M)) [.int p0, .int p1, .int p2].toArray s 0 0 (fun _ => False)) (F0 m 9 ls []) := by
    intro n
    induction n with
    | zero => intro j h1 h3; omega
    | succ n ih =>
      intro j hj hn ls hl
      refine lv_iload hx hb dX0_monthStart_9 (lv_at hl 0 rfl) ?_
      refine lv_iload_n hx hb dX0_monthStart_11 rfl (lv_at hl 4 rfl) ?_
      refine lv_icmp_ge (tgt := 31) hx hb dX0_monthStart_12 (by decide) (fun h_2 => ?_) (fun h_2 => ?_)
      · refine lv_iload_n hx hb dX0_monthStart_31 rfl (lv_at hl 1 rfl) ?_
        exact W.iret (v := ms_C p0 p1 j) hx hb hr (fun t ht hW => ⟨_, rfl, by rw [show j = M by have hh := h_2; rw [h2] at hh; have := (nI_leI (by omega) (by omega)).mp hh; omega], ht⟩) (fun _ h => by cases h) dX0_monthStart_32
      · refine lv_iload_n hx hb dX0_monthStart_15 rfl (lv_at hl 1 rfl) ?_
        refine lv_iload_n hx hb dX0_monthStart_16 rfl (lv_at hl 2 rfl) ?_
        refine lv_iload_n hx hb dX0_monthStart_17 rfl (lv_at hl 3 rfl) ?_
        refine lv_iload hx hb dX0_monthStart_18 (lv_at hl 0 rfl) ?_
        refine vp_callSi (va_Run.run (va_runS (As := [.int p0, .int p1, .int (nI (j + 1))]) (rest := [.int (ms_C p0 p1 j)]) ⟨hx, hb, hml, hown, hts⟩ (k_X0_monthDays l p0 p1 (nI (j + 1))) (va_cwS 3 hts gX0_monthStart_X0_monthDays rfl rfl rfl (by decide +kernel) ⟨Nat.le_of_ble_eq_true rfl, Nat.le_of_ble_eq_true rfl⟩) ⟨cm_blind, fun U hU hW => ⟨rfl, cm_warm hcm hU hW⟩⟩ rfl rfl hl.1 rfl (lv_room (Nat.le_of_ble_eq_true rfl)) dX0_monthStart_20 ⟨Nat.le_of_ble_eq_true rfl, Nat.le_of_ble_eq_true rfl⟩)) (fun r_3 er_3 => ?_)
        subst er_3
        refine lv_iadd hx hb dX0_monthStart_23 ?_
        refine lv_istore_n (lv' := [(3, .int ((ms_C p0 p1 j) + (f_X0_monthDays p0 p1 (nI (j + 1))))), (4, .int (nI (j + 1))), (0, .int p0), (1, .int p1), (2, .int p2)]) hx hb dX0_monthStart_24 rfl hl (by decide) rfl (fun ls hl => ?_)
        obtain ⟨x_4, ex_4⟩ : ∃ y : Int32, y = (nI (j + 1)) + 1 := ⟨_, rfl⟩
        refine lv_iinc (v := x_4) (lv' := [(4, .int x_4), (3, .int ((ms_C p0 p1 j) + (f_X0_monthDays p0 p1 (nI (j + 1))))), (0, .int p0), (1, .int p1), (2, .int p2)]) hx hb dX0_monthStart_25 hl (k := 1) rfl (by rw [ex_4]; rfl) (by decide) rfl (fun ls hl => ?_)
        refine lv_goto (tgt := 9) hx hb dX0_monthStart_28 (by decide) ?_
        have hjM : ¬ M ≤ j := fun q => h_2 (by rw [h2]; exact nI_le (by omega) (by omega))
        have e4 : x_4 = nI (j + 1 + 1) := by rw [ex_4, nI_1]
        rw [e4] at hl
        exact ih (j + 1) (by omega) (by omega) ls (lv_sub hl [0, 1, 2, 3, 4] rfl)
  exact hloop (M + 1) 0 (Nat.zero_le _) (by omega) ls (lv_sub hl [0, 1, 2, 3, 4] rfl)

theorem im_M {a b c : Int32} (h : ¬ f_X0_isMonth a b c = 0) : c.toNatClampNeg - 1 < 13 ∧ c = nI (c.toNatClampNeg - 1 + 1) := by
  have h1 : ¬ c < 1 := fun q => h (by rw [f_X0_isMonth]; split; rfl; rw [if_pos q])
  have h2 : ¬ f_X0_months a < c := fun q => h (by rw [f_X0_isMonth]; split; rfl; rw [if_neg h1, if_pos q])
  have h3 : c ≤ 13 := by
    have e := Int32.not_lt.mp h2
    unfold f_X0_months at e
    split at e
    · exact e
    · exact Int32.le_trans e (by decide)
  obtain ⟨j, hj, rfl⟩ := nI_of2 (M := 13) (n := 13) rfl (fun q => h1 (Int32.lt_trans q (by decide))) h3
  have hj1 : 1 ≤ j := by
    rcases Nat.eq_zero_or_pos j with q | q
    · subst q; exact absurd (by decide) h1
    · exact q
  rw [nI_clamp (by omega)]
  exact ⟨by omega, by rw [show j - 1 + 1 = j by omega]⟩

def f_X0_dayOf (p0 p1 p2 p3 : Int32) : Int32 := if (f_X0_isMonth p0 p1 p2) = 0 then (-1) else (if p3 < 1 then (-1) else (if p3 ≤ (f_X0_monthDays p0 p1 p2) then (if (f_X5_isDay (((ms_C p0 p1 (p2.toNatClampNeg - 1)) + p3) - 1)) = 0 then (-1) else (((ms_C p0 p1 (p2.toNatClampNeg - 1)) + p3) - 1)) else (-1)))
set_option maxHeartbeats 4000000 in
set_option maxRecDepth 100000 in
theorem k_X0_dayOf (l : Launch) (p0 p1 p2 p3 : Int32) : Met l yX0_dayOf wsX0_dayOf ({ frames := 3, cells := 0, slots := 0, locals := 67 }) (va_Pc [.int p0, .int p1, .int p2, .int p3] cm_ok) (vp_Si (fun r => r = f_X0_dayOf p0 p1 p2 p3)) 0 0 (fun _ => False) := by
  refine Met.ofW (cc := cX0_dayOf) (maxL := 5) (ret := (some .int)) (by decide) rfl ?_
  intro p e s m args below meth c s₁ B hml hv
  obtain ⟨rfl, hcm⟩ := hv
  have hx := B.exec
  have hb := B.bytes
  have hr := B.returns
  have hts := atoms_spec (ws := wsX0_dayOf) B.pre
  have hown : s.vm.findClass RX0 = some m.cls := findClass_of_methodNamed B.named
  have hlocks := B.notSynchronized
  have hl := lv_entry ([.int p0, .int p1, .int p2, .int p3]) (n := 5) (Nat.le_of_ble_eq_true rfl)
  rw [lg_entry_eq]
  generalize (lg_sl ([.int p0, .int p1, .int p2, .int p3]) ++ List.replicate (5 - (lg_sl ([.int p0, .int p1, .int p2, .int p3])).length) Slot.unset).toArray = ls at hl ⊢
  have hl : lv_has ls 5 [(0, .int p0), (1, .int p1), (2, .int p2), (3, .int p3)] := hl
  refine lv_iload_n hx hb dX0_dayOf_0 rfl (lv_at hl 0 rfl) ?_
  refine lv_iload_n hx hb dX0_dayOf_1 rfl (lv_at hl 1 rfl) ?_
  refine lv_iload_n hx hb dX0_dayOf_2 rfl (lv_at hl 2 rfl) ?_
  refine vp_callSi (va_Run.run (va_runS (As := [.int p0, .int p1, .int p2]) (rest := []) ⟨hx, hb, hml, hown, hts⟩ (k_X0_isMonth l p0 p1 p2) (va_cwS 3 hts gX0_dayOf_X0_isMonth rfl rfl rfl (by decide +kernel) ⟨Nat.le_of_ble_eq_true rfl, Nat.le_of_ble_eq_true rfl⟩) ⟨cm_blind, fun U hU hW => ⟨rfl, cm_warm hcm hU hW⟩⟩ rfl rfl hl.1 rfl (lv_room (Nat.le_of_ble_eq_true rfl)) dX0_dayOf_3 ⟨Nat.le_of_ble_eq_true rfl, Nat.le_of_ble_eq_true rfl⟩)) (fun r_1 er_1 => ?_)
  subst er_1
  refine lv_if_eq (tgt := 24) hx hb dX0_dayOf_6 (by decide) (fun h_2 => ?_) (fun h_2 => ?_)
  · refine lv_iconst (v := (-1)) hx hb dX0_dayOf_24 (by decide) ?_
    exact W.iret (v := (-1)) hx hb hr (fun t ht hW => ⟨_, rfl, by rw [f_X0_dayOf, if_pos h_2], ht⟩) (fun _ h => by cases h) dX0_dayOf_25
  · refine lv_iload_n hx hb dX0_dayOf_9 rfl (lv_at hl 3 rfl) ?_
    refine lv_iconst (v := 1) hx hb dX0_dayOf_10 (by decide) ?_
    refine lv_icmp_lt (tgt := 24) hx hb dX0_dayOf_11 (by decide) (fun h_3 => ?_) (fun h_3 => ?_)
    · refine lv_iconst (v := (-1)) hx hb dX0_dayOf_24 (by decide) ?_
      exact W.iret (v := (-1)) hx hb hr (fun t ht hW => ⟨_, rfl, by rw [f_X0_dayOf, if_neg h_2, if_pos h_3], ht⟩) (fun _ h => by cases h) dX0_dayOf_25
    · refine lv_iload_n hx hb dX0_dayOf_14 rfl (lv_at hl 3 rfl) ?_
      refine lv_iload_n hx hb dX0_dayOf_15 rfl (lv_at hl 0 rfl) ?_
      refine lv_iload_n hx hb dX0_dayOf_16 rfl (lv_at hl 1 rfl) ?_
      refine lv_iload_n hx hb dX0_dayOf_17 rfl (lv_at hl 2 rfl) ?_
      refine vp_callSi (va_Run.run (va_runS (As := [.int p0, .int p1, .int p2]) (rest := [.int p3]) ⟨hx, hb, hml, hown, hts⟩ (k_X0_monthDays l p0 p1 p2) (va_cwS 3 hts gX0_dayOf_X0_monthDays rfl rfl rfl (by decide +kernel) ⟨Nat.le_of_ble_eq_true rfl, Nat.le_of_ble_eq_true rfl⟩) ⟨cm_blind, fun U hU hW => ⟨rfl, cm_warm hcm hU hW⟩⟩ rfl rfl hl.1 rfl (lv_room (Nat.le_of_ble_eq_true rfl)) dX0_dayOf_18 ⟨Nat.le_of_ble_eq_true rfl, Nat.le_of_ble_eq_true rfl⟩)) (fun r_4 er_4 => ?_)
      subst er_4
      refine lv_icmp_le (tgt := 26) hx hb dX0_dayOf_21 (by decide) (fun h_5 => ?_) (fun h_5 => ?_)
      · refine lv_iload_n hx hb dX0_dayOf_26 rfl (lv_at hl 0 rfl) ?_
        refine lv_iload_n hx hb dX0_dayOf_27 rfl (lv_at hl 1 rfl) ?_
        refine lv_iload_n hx hb dX0_dayOf_28 rfl (lv_at hl 2 rfl) ?_
        refine vp_callSi (va_Run.run (va_runS (As := [.int p0, .int p1, .int p2]) (rest := []) ⟨hx, hb, hml, hown, hts⟩ (k_X0_monthStart l p0 p1 p2 (p2.toNatClampNeg - 1) (im_M h_2).1 (im_M h_2).2) (va_cwS 3 hts gX0_dayOf_X0_monthStart rfl rfl rfl (by decide +kernel) ⟨Nat.le_of_ble_eq_true rfl, Nat.le_of_ble_eq_true rfl⟩) ⟨cm_blind, fun U hU hW => ⟨rfl, cm_warm hcm hU hW⟩⟩ rfl rfl hl.1 rfl (lv_room (Nat.le_of_ble_eq_true rfl)) dX0_dayOf_29 ⟨Nat.le_of_ble_eq_true rfl, Nat.le_of_ble_eq_true rfl⟩)) (fun r_6 er_6 => ?_)
        subst er_6
        refine lv_iload_n hx hb dX0_dayOf_32 rfl (lv_at hl 3 rfl) ?_
        refine lv_iadd hx hb dX0_dayOf_33 ?_
        refine lv_iconst (v := 1) hx hb dX0_dayOf_34 (by decide) ?_
        refine lv_isub hx hb dX0_dayOf_35 ?_
        refine lv_istore (lv' := [(4, .int (((ms_C p0 p1 (p2.toNatClampNeg - 1)) + p3) - 1)), (0, .int p0), (1, .int p1), (2, .int p2), (3, .int p3)]) hx hb dX0_dayOf_36 hl (by decide) rfl (fun ls hl => ?_)
        refine lv_iload hx hb dX0_dayOf_38 (lv_at hl 0 rfl) ?_
        refine vp_callSi (va_Run.run (va_runSN (As := [.int (((ms_C p0 p1 (p2.toNatClampNeg - 1)) + p3) - 1)]) (rest := []) ⟨hx, hb, hml, hown, hts⟩ (k_X5_isDay l (((ms_C p0 p1 (p2.toNatClampNeg - 1)) + p3) - 1)) ⟨va_cnB (host := "DayBench") 1 hts gX0_dayOf_X5_isDay_n45 rfl rfl rfl hcm.2 (hts (.initialized RX5) (by decide +kernel)) (by decide +kernel) ⟨Nat.le_of_ble_eq_true rfl, Nat.le_of_ble_eq_true rfl⟩, hts (.static yX5_isDay) (by decide +kernel), trivial⟩ ⟨cm_blind, fun U hU hW => ⟨rfl, cm_warm hcm hU hW⟩⟩ rfl rfl hl.1 rfl (lv_room (Nat.le_of_ble_eq_true rfl)) dX0_dayOf_40 ⟨Nat.le_of_ble_eq_true rfl, Nat.le_of_ble_eq_true rfl⟩)) (fun r_7 er_7 => ?_)
        subst er_7
        refine lv_if_eq (tgt := 51) hx hb dX0_dayOf_43 (by decide) (fun h_8 => ?_) (fun h_8 => ?_)
        · refine lv_iconst (v := (-1)) hx hb dX0_dayOf_51 (by decide) ?_
          exact W.iret (v := (-1)) hx hb hr (fun t ht hW => ⟨_, rfl, by rw [f_X0_dayOf, if_neg h_2, if_neg h_3, if_pos h_5, if_pos h_8], ht⟩) (fun _ h => by cases h) dX0_dayOf_52
        · refine lv_iload hx hb dX0_dayOf_46 (lv_at hl 0 rfl) ?_
          refine lv_goto (tgt := 52) hx hb dX0_dayOf_48 (by decide) ?_
          exact W.iret (v := ((ms_C p0 p1 (p2.toNatClampNeg - 1)) + p3) - 1) hx hb hr (fun t ht hW => ⟨_, rfl, by rw [f_X0_dayOf, if_neg h_2, if_neg h_3, if_pos h_5, if_neg h_8], ht⟩) (fun _ h => by cases h) dX0_dayOf_52
      · refine lv_iconst (v := (-1)) hx hb dX0_dayOf_24 (by decide) ?_
        exact W.iret (v := (-1)) hx hb hr (fun t ht hW => ⟨_, rfl, by rw [f_X0_dayOf, if_neg h_2, if_neg h_3, if_neg h_5], ht⟩) (fun _ h => by cases h) dX0_dayOf_25

def yl_C (c d : Int32) : Nat → Int32 → Int32
  | 0, y => y
  | n + 1, y => if 2699 < y then y else if d < f_X0_yearStart c (y + 1) then y else yl_C c d n (y + 1)
def f_X0_yearOf (c d : Int32) : Int32 := if 2699 < yl_C c d 2701 (d / 366 + 1) then -1 else yl_C c d 2701 (d / 366 + 1)

set_option maxHeartbeats 4000000 in
set_option maxRecDepth 100000 in
theorem k_X0_yearOf (l : Launch) (p0 p1 : Int32) (D : Nat) (hD : D ≤ 985999) (h1 : p1 = nI D) : Met l yX0_yearOf wsX0_yearOf ({ frames := 1, cells := 0, slots := 0, locals := 23 }) (va_Pc [.int p0, .int p1] cm_ok) (vp_Si (fun r => r = f_X0_yearOf p0 p1)) 0 0 (fun _ => False) := by
  refine Met.ofW (cc := cX0_yearOf) (maxL := 3) (ret := (some .int)) (by decide) rfl ?_
  intro p e s m args below meth c s₁ B hml hv
  obtain ⟨rfl, hcm⟩ := hv
  have hx := B.exec
  have hb := B.bytes
  have hr := B.returns
  have hts := atoms_spec (ws := wsX0_yearOf) B.pre
  have hown : s.vm.findClass RX0 = some m.cls := findClass_of_methodNamed B.named
  have hlocks := B.notSynchronized
  have hl := lv_entry ([.int p0, .int p1]) (n := 3) (Nat.le_of_ble_eq_true rfl)
  rw [lg_entry_eq]
  generalize (lg_sl ([.int p0, .int p1]) ++ List.replicate (3 - (lg_sl ([.int p0, .int p1])).length) Slot.unset).toArray = ls at hl ⊢
  have hl : lv_has ls 3 [(0, .int p0), (1, .int p1)] := hl
  refine lv_iload_n hx hb dX0_yearOf_0 rfl (lv_at hl 1 rfl) ?_
  refine lv_sipush (v := 366) hx hb dX0_yearOf_1 (by decide) ?_
  refine lv_idiv hx hb dX0_yearOf_4 (by decide) ?_
  refine lv_iconst (v := 1) hx hb dX0_yearOf_5 (by decide) ?_
  refine lv_iadd hx hb dX0_yearOf_6 ?_
  refine lv_istore_n (lv' := [(2, .int ((p1 / 366) + 1)), (0, .int p0), (1, .int p1)]) hx hb dX0_yearOf_7 rfl hl (by decide) rfl (fun ls hl => ?_)
  have hloop : ∀ (n Y : Nat), Y ≤ 2700 → 2700 < Y + n → yl_C p0 p1 n (nI Y) = yl_C p0 p1 2701 (p1 / 366 + 1) → ∀ (ls : Array Slot), lv_has ls 3 [(2, .int (nI Y)), (0, .int p0), (1, .int p1)] → W p l e (headSpec wsX0_yearOf ({ frames := 1, cells := 0, slots := 0, locals := 23 })).room s m [.int p0, .int p1].toArray below meth c s.heap [] 0 0 (MQ below (vp_Si (fun r => r = f_X0_yearOf p0 p1)) [.int p0, .int p1].toArray s 0 0 (fun _ => False)) (F0 m 8 ls []) := by
    intro n
    induction n with
    | zero => intro Y h1 h3; omega
    | succ n ih =>
      intro Y hY hn hv ls hl
      refine lv_iload_n hx hb dX0_yearOf_8 rfl (lv_at hl 0 rfl) ?_
      refine lv_sipush (v := 2699) hx hb dX0_yearOf_9 (by decide) ?_
      refine lv_icmp_gt (tgt := 32) hx hb dX0_yearOf_12 (by decide) (fun h_1 => ?_) (fun h_1 => ?_)
      · refine lv_iload_n hx hb dX0_yearOf_32 rfl (lv_at hl 0 rfl) ?_
        refine lv_sipush (v := 2699) hx hb dX0_yearOf_33 (by decide) ?_
        refine lv_icmp_gt (tgt := 43) hx hb dX0_yearOf_36 (by decide) (fun h_2 => ?_) (fun h_2 => ?_)
        · refine lv_iconst (v := (-1)) hx hb dX0_yearOf_43 (by decide) ?_
          exact W.iret (v := (-1)) hx hb hr (fun t ht hW => ⟨_, rfl, by rw [f_X0_yearOf, ← hv, yl_C, if_pos h_1, if_pos h_2], ht⟩) (fun _ h => by cases h) dX0_yearOf_44
        · refine lv_iload_n hx hb dX0_yearOf_39 rfl (lv_at hl 0 rfl) ?_
          refine lv_goto (tgt := 44) hx hb dX0_yearOf_40 (by decide) ?_
          exact W.iret (v := nI Y) hx hb hr (fun t ht hW => ⟨_, rfl, (by first | exact absurd h_1 h_2 | (rw [f_X0_yearOf, ← hv, yl_C, if_pos h_1, if_neg h_2])), ht⟩) (fun _ h => by cases h) dX0_yearOf_44
      · refine lv_iload_n hx hb dX0_yearOf_15 rfl (lv_at hl 1 rfl) ?_
        refine lv_iload_n hx hb dX0_yearOf_16 rfl (lv_at hl 0 rfl) ?_
        refine lv_iconst (v := 1) hx hb dX0_yearOf_17 (by decide) ?_
        refine lv_iadd hx hb dX0_yearOf_18 ?_
        refine vp_callSi (va_Run.run (va_runS (As := [.int p0, .int ((nI Y) + 1)]) (rest := []) ⟨hx, hb, hml, hown, hts⟩ (k_X0_yearStart l p0 ((nI Y) + 1)) (va_cwS 2 hts gX0_yearOf_X0_yearStart rfl rfl rfl (by decide +kernel) ⟨Nat.le_of_ble_eq_true rfl, Nat.le_of_ble_eq_true rfl⟩) ⟨cm_blind, fun U hU hW => ⟨rfl, cm_warm hcm hU hW⟩⟩ rfl rfl hl.1 rfl (lv_room (Nat.le_of_ble_eq_true rfl)) dX0_yearOf_19 ⟨Nat.le_of_ble_eq_true rfl, Nat.le_of_ble_eq_true rfl⟩)) (fun r_3 er_3 => ?_)
        subst er_3
        refine lv_iload_n hx hb dX0_yearOf_22 rfl (lv_at hl 2 rfl) ?_
        refine lv_icmp_gt (tgt := 32) hx hb dX0_yearOf_23 (by decide) (fun h_4 => ?_) (fun h_4 => ?_)
        · refine lv_iload_n hx hb dX0_yearOf_32 rfl (lv_at hl 0 rfl) ?_
          refine lv_sipush (v := 2699) hx hb dX0_yearOf_33 (by decide) ?_
          refine lv_icmp_gt (tgt := 43) hx hb dX0_yearOf_36 (by decide) (fun h_5 => ?_) (fun h_5 => ?_)
          · refine lv_iconst (v := (-1)) hx hb dX0_yearOf_43 (by decide) ?_
            exact W.iret (v := (-1)) hx hb hr (fun t ht hW => ⟨_, rfl, by rw [f_X0_yearOf, ← hv, yl_C, if_neg h_1, if_pos h_4, if_pos h_5], ht⟩) (fun _ h => by cases h) dX0_yearOf_44
          · refine lv_iload_n hx hb dX0_yearOf_39 rfl (lv_at hl 0 rfl) ?_
            refine lv_goto (tgt := 44) hx hb dX0_yearOf_40 (by decide) ?_
            exact W.iret (v := nI Y) hx hb hr (fun t ht hW => ⟨_, rfl, by rw [f_X0_yearOf, ← hv, yl_C, if_neg h_1, if_pos h_4, if_neg h_5], ht⟩) (fun _ h => by cases h) dX0_yearOf_44
        · obtain ⟨x_6, ex_6⟩ : ∃ y : Int32, y = (nI Y) + 1 := ⟨_, rfl⟩
          refine lv_iinc (v := x_6) (lv' := [(2, .int x_6), (0, .int p0), (1, .int p1)]) hx hb dX0_yearOf_26 hl (k := 0) rfl (by rw [ex_6]; rfl) (by decide) rfl (fun ls hl => ?_)
          refine lv_goto (tgt := 8) hx hb dX0_yearOf_29 (by decide) ?_
          have e2 : x_6 = nI (Y + 1) := by rw [ex_6, nI_1]
          have hY1 : Y ≤ 2699 := by rcases Nat.lt_or_ge 2699 Y with q | q; exact absurd (nI_lt (a := 2699) q (by omega)) h_1; exact q
          rw [e2] at hl
          exact ih (Y + 1) (by omega) (by omega) (by rw [← hv, yl_C, if_neg h_1, if_neg h_4, nI_1]) ls (lv_sub hl [0, 1, 2] rfl)
  have e0 : p1 / 366 + 1 = nI (D / 366 + 1) := by rw [h1, show (366 : Int32) = nI 366 from rfl, pk_div (by omega) (by omega) (by omega), nI_1]
  have hl := lv_sub hl [0, 1, 2] rfl
  dsimp only [lv_pick] at hl
  rw [e0] at hl
  exact hloop 2701 (D / 366 + 1) (by omega) (by omega) (by rw [e0]) ls hl

theorem id_D {d : Int32} (h : ¬ f_X5_isDay d = 0) : d.toNatClampNeg ≤ 985999 ∧ d = nI d.toNatClampNeg := by
  have h1 : ¬ d < 0 := fun q => h (by rw [f_X5_isDay, if_pos q])
  have h2 : ¬ 985999 < d := fun q => h (by rw [f_X5_isDay, if_neg h1, if_pos q])
  obtain ⟨j, hj, rfl⟩ := nI_of2 (M := 985999) (n := 985999) rfl h1 (Int32.not_lt.mp h2)
  rw [nI_clamp (by omega)]
  exact ⟨hj, rfl⟩
theorem mo_K {c : Int32} {K : Nat} (h : ¬ f_X0_months c ≤ nI K) (hK : K ≤ 13) : K < 13 := by
  rcases Nat.lt_or_ge K 13 with q | q
  · exact q
  · have e : K = 13 := by omega
    subst e
    refine absurd ?_ h
    unfold f_X0_months
    split <;> decide
def ml_C (c y : Int32) : Nat → Int32 → Nat → Int32 × Nat
  | 0, r, K => (r, K)
  | n + 1, r, K => if f_X0_months c ≤ nI K then (r, K) else if r < f_X0_monthDays c y (nI K) then (r, K) else ml_C c y n (r - f_X0_monthDays c y (nI K)) (K + 1)
def pe_C (w : Int32) (q : Int32 × Nat) : Int32 := if w = 1 then nI q.2 else q.1 + 1

def f_X0_partOf (p0 p1 p2 : Int32) : Int32 := if (f_X0_isCalendar p0) = 0 then (-1) else (if (f_X5_isDay p1) = 0 then (-1) else (if p2 < 0 then (-1) else (if p2 ≤ 2 then (if p2 = 0 then (f_X0_yearOf p0 p1) else (if (f_X0_yearOf p0 p1) = (-1) then (f_X0_yearOf p0 p1) else (pe_C p2 (ml_C p0 (f_X0_yearOf p0 p1) 14 (p1 - (f_X0_yearStart p0 (f_X0_yearOf p0 p1))) 1)))) else (-1))))
set_option maxHeartbeats 4000000 in
set_option maxRecDepth 100000 in
theorem k_X0_partOf (l : Launch) (p0 p1 p2 : Int32) : Met l yX0_partOf wsX0_partOf ({ frames := 2, cells := 0, slots := 0, locals := 45 }) (va_Pc [.int p0, .int p1, .int p2] cm_ok) (vp_Si (fun r => r = f_X0_partOf p0 p1 p2)) 0 0 (fun _ => False) := by
  refine Met.ofW (cc := cX0_partOf) (maxL := 6) (ret := (some .int)) (by decide) rfl ?_
  intro p e s m args below meth c s₁ B hml hv
  obtain ⟨rfl, hcm⟩ := hv
  have hx := B.exec
  have hb := B.bytes
  have hr := B.returns
  have hts := atoms_spec (ws := wsX0_partOf) B.pre
  have hown : s.vm.findClass RX0 = some m.cls := findClass_of_methodNamed B.named
  have hlocks := B.notSynchronized
  have hl := lv_entry ([.int p0, .int p1, .int p2]) (n := 6) (Nat.le_of_ble_eq_true rfl)
  rw [lg_entry_eq]
  generalize (lg_sl ([.int p0, .int p1, .int p2]) ++ List.replicate (6 - (lg_sl ([.int p0, .int p1, .int p2])).length) Slot.unset).toArray = ls at hl ⊢
  have hl : lv_has ls 6 [(0, .int p0), (1, .int p1), (2, .int p2)] := hl
  refine lv_iload_n hx hb dX0_partOf_0 rfl (lv_at hl 0 rfl) ?_
  refine vp_callSi (va_Run.run (va_runS (As := [.int p0]) (rest := []) ⟨hx, hb, hml, hown, hts⟩ (k_X0_isCalendar l p0) (va_cwS 1 hts gX0_partOf_X0_isCalendar rfl rfl rfl (by decide +kernel) ⟨Nat.le_of_ble_eq_true rfl, Nat.le_of_ble_eq_true rfl⟩) ⟨cm_blind, fun U hU hW => ⟨rfl, cm_warm hcm hU hW⟩⟩ rfl rfl hl.1 rfl (lv_room (Nat.le_of_ble_eq_true rfl)) dX0_partOf_1 ⟨Nat.le_of_ble_eq_true rfl, Nat.le_of_ble_eq_true rfl⟩)) (fun r_1 er_1 => ?_)
  subst er_1
  refine lv_if_eq (tgt := 23) hx hb dX0_partOf_4 (by decide) (fun h_2 => ?_) (fun h_2 => ?_)
  · refine lv_iconst (v := (-1)) hx hb dX0_partOf_23 (by decide) ?_
    exact W.iret (v := (-1)) hx hb hr (fun t ht hW => ⟨_, rfl, by rw [f_X0_partOf, if_pos h_2], ht⟩) (fun _ h => by cases h) dX0_partOf_24
  · refine lv_iload_n hx hb dX0_partOf_7 rfl (lv_at hl 1 rfl) ?_
    refine vp_callSi (va_Run.run (va_runSN (As := [.int p1]) (rest := []) ⟨hx, hb, hml, hown, hts⟩ (k_X5_isDay l p1) ⟨va_cnB (host := "DayBench") 1 hts gX0_partOf_X5_isDay_n45 rfl rfl rfl hcm.2 (hts (.initialized RX5) (by decide +kernel)) (by decide +kernel) ⟨Nat.le_of_ble_eq_true rfl, Nat.le_of_ble_eq_true rfl⟩, hts (.static yX5_isDay) (by decide +kernel), trivial⟩ ⟨cm_blind, fun U hU hW => ⟨rfl, cm_warm hcm hU hW⟩⟩ rfl rfl hl.1 rfl (lv_room (Nat.le_of_ble_eq_true rfl)) dX0_partOf_8 ⟨Nat.le_of_ble_eq_true rfl, Nat.le_of_ble_eq_true rfl⟩)) (fun r_3 er_3 => ?_)
    subst er_3
    refine lv_if_eq (tgt := 23) hx hb dX0_partOf_11 (by decide) (fun h_4 => ?_) (fun h_4 => ?_)
    · refine lv_iconst (v := (-1)) hx hb dX0_partOf_23 (by decide) ?_
      exact W.iret (v := (-1)) hx hb hr (fun t ht hW => ⟨_, rfl, by rw [f_X0_partOf, if_neg h_2, if_pos h_4], ht⟩) (fun _ h => by cases h) dX0_partOf_24
    · refine lv_iload_n hx hb dX0_partOf_14 rfl (lv_at hl 2 rfl) ?_
      refine lv_if_lt (tgt := 23) hx hb dX0_partOf_15 (by decide) (fun h_5 => ?_) (fun h_5 => ?_)
      · refine lv_iconst (v := (-1)) hx hb dX0_partOf_23 (by decide) ?_
        exact W.iret (v := (-1)) hx hb hr (fun t ht hW => ⟨_, rfl, by rw [f_X0_partOf, if_neg h_2, if_neg h_4, if_pos h_5], ht⟩) (fun _ h => by cases h) dX0_partOf_24
      · refine lv_iload_n hx hb dX0_partOf_18 rfl (lv_at hl 2 rfl) ?_
        refine lv_iconst (v := 2) hx hb dX0_partOf_19 (by decide) ?_
        refine lv_icmp_le (tgt := 25) hx hb dX0_partOf_20 (by decide) (fun h_6 => ?_) (fun h_6 => ?_)
        · refine lv_iload_n hx hb dX0_partOf_25 rfl (lv_at hl 0 rfl) ?_
          refine lv_iload_n hx hb dX0_partOf_26 rfl (lv_at hl 1 rfl) ?_
          refine vp_callSi (va_Run.run (va_runS (As := [.int p0, .int p1]) (rest := []) ⟨hx, hb, hml, hown, hts⟩ (k_X0_yearOf l p0 p1 p1.toNatClampNeg (id_D h_4).1 (id_D h_4).2) (va_cwS 2 hts gX0_partOf_X0_yearOf rfl rfl rfl (by decide +kernel) ⟨Nat.le_of_ble_eq_true rfl, Nat.le_of_ble_eq_true rfl⟩) ⟨cm_blind, fun U hU hW => ⟨rfl, cm_warm hcm hU hW⟩⟩ rfl rfl hl.1 rfl (lv_room (Nat.le_of_ble_eq_true rfl)) dX0_partOf_27 ⟨Nat.le_of_ble_eq_true rfl, Nat.le_of_ble_eq_true rfl⟩)) (fun r_7 er_7 => ?_)
          subst er_7
          refine lv_istore_n (lv' := [(3, .int (f_X0_yearOf p0 p1)), (0, .int p0), (1, .int p1), (2, .int p2)]) hx hb dX0_partOf_30 rfl hl (by decide) rfl (fun ls hl => ?_)
          refine lv_iload_n hx hb dX0_partOf_31 rfl (lv_at hl 3 rfl) ?_
          refine lv_if_eq (tgt := 40) hx hb dX0_partOf_32 (by decide) (fun h_8 => ?_) (fun h_8 => ?_)
          · refine lv_iload_n hx hb dX0_partOf_40 rfl (lv_at hl 0 rfl) ?_
            exact W.iret (v := f_X0_yearOf p0 p1) hx hb hr (fun t ht hW => ⟨_, rfl, by rw [f_X0_partOf, if_neg h_2, if_neg h_4, if_neg h_5, if_pos h_6, if_pos h_8], ht⟩) (fun _ h => by cases h) dX0_partOf_41
          · refine lv_iload_n hx hb dX0_partOf_35 rfl (lv_at hl 0 rfl) ?_
            refine lv_iconst (v := (-1)) hx hb dX0_partOf_36 (by decide) ?_
            refine lv_icmp_ne (tgt := 42) hx hb dX0_partOf_37 (by decide) (fun h_9 => ?_) (fun h_9 => ?_)
            · refine lv_iload_n hx hb dX0_partOf_42 rfl (lv_at hl 2 rfl) ?_
              refine lv_iload_n hx hb dX0_partOf_43 rfl (lv_at hl 1 rfl) ?_
              refine lv_iload_n hx hb dX0_partOf_44 rfl (lv_at hl 0 rfl) ?_
              refine vp_callSi (va_Run.run (va_runS (As := [.int p0, .int (f_X0_yearOf p0 p1)]) (rest := [.int p1]) ⟨hx, hb, hml, hown, hts⟩ (k_X0_yearStart l p0 (f_X0_yearOf p0 p1)) (va_cwS 2 hts gX0_partOf_X0_yearStart rfl rfl rfl (by decide +kernel) ⟨Nat.le_of_ble_eq_true rfl, Nat.le_of_ble_eq_true rfl⟩) ⟨cm_blind, fun U hU hW => ⟨rfl, cm_warm hcm hU hW⟩⟩ rfl rfl hl.1 rfl (lv_room (Nat.le_of_ble_eq_true rfl)) dX0_partOf_45 ⟨Nat.le_of_ble_eq_true rfl, Nat.le_of_ble_eq_true rfl⟩)) (fun r_10 er_10 => ?_)
              subst er_10
              refine lv_isub hx hb dX0_partOf_48 ?_
              refine lv_istore (lv' := [(4, .int (p1 - (f_X0_yearStart p0 (f_X0_yearOf p0 p1)))), (3, .int (f_X0_yearOf p0 p1)), (0, .int p0), (1, .int p1), (2, .int p2)]) hx hb dX0_partOf_49 hl (by decide) rfl (fun ls hl => ?_)
              refine lv_iconst (v := 1) hx hb dX0_partOf_51 (by decide) ?_
              refine lv_istore (lv' := [(5, .int 1), (4, .int (p1 - (f_X0_yearStart p0 (f_X0_yearOf p0 p1)))), (3, .int (f_X0_yearOf p0 p1)), (0, .int p0), (1, .int p1), (2, .int p2)]) hx hb dX0_partOf_52 hl (by decide) rfl (fun ls hl => ?_)
              have hspec : f_X0_partOf p0 p1 p2 = pe_C p2 (ml_C p0 (f_X0_yearOf p0 p1) 14 (p1 - (f_X0_yearStart p0 (f_X0_yearOf p0 p1))) 1) := by rw [f_X0_partOf, if_neg h_2, if_neg h_4, if_neg h_5, if_pos h_6, if_neg h_8, if_neg h_9]
              have hloop : ∀ (n : Nat) (rr : Int32) (K : Nat), K ≤ 13 → 13 < K + n → ml_C p0 (f_X0_yearOf p0 p1) n rr K = ml_C p0 (f_X0_yearOf p0 p1) 14 (p1 - (f_X0_yearStart p0 (f_X0_yearOf p0 p1))) 1 → ∀ (ls : Array Slot), lv_has ls 6 [(5, .int (nI K)), (4, .int rr), (0, .int p0), (1, .int p1), (2, .int p2), (3, .int (f_X0_yearOf p0 p1))] → W p l e (headSpec wsX0_partOf ({ frames := 2, cells := 0, slots := 0, locals := 45 })).room s m [.int p0, .int p1, .int p2].toArray below meth c s.heap [] 0 0 (MQ below (vp_Si (fun r => r = f_X0_partOf p0 p1 p2)) [.int p0, .int p1, .int p2].toArray s 0 0 (fun _ => False)) (F0 m 54 ls []) := by
                intro n
                induction n with
                | zero => intro rr K h1 h3; omega
                | succ n ih =>
                  intro rr K hK hn hv ls hl
                  refine lv_iload hx hb dX0_partOf_54 (lv_at hl 0 rfl) ?_
                  refine lv_iload_n hx hb dX0_partOf_56 rfl (lv_at hl 2 rfl) ?_
                  refine vp_callSi (va_Run.run (va_runS (As := [.int p0]) (rest := [.int (nI K)]) ⟨hx, hb, hml, hown, hts⟩ (k_X0_months l p0) (va_cwS 1 hts gX0_partOf_X0_months rfl rfl rfl (by decide +kernel) ⟨Nat.le_of_ble_eq_true rfl, Nat.le_of_ble_eq_true rfl⟩) ⟨cm_blind, fun U hU hW => ⟨rfl, cm_warm hcm hU hW⟩⟩ rfl rfl hl.1 rfl (lv_room (Nat.le_of_ble_eq_true rfl)) dX0_partOf_57 ⟨Nat.le_of_ble_eq_true rfl, Nat.le_of_ble_eq_true rfl⟩)) (fun r_11 er_11 => ?_)
                  subst er_11
                  refine lv_icmp_ge (tgt := 93) hx hb dX0_partOf_60 (by decide) (fun h_12 => ?_) (fun h_12 => ?_)
                  · refine lv_iload_n hx hb dX0_partOf_93 rfl (lv_at hl 4 rfl) ?_
                    refine lv_iconst (v := 1) hx hb dX0_partOf_94 (by decide) ?_
                    refine lv_icmp_ne (tgt := 103) hx hb dX0_partOf_95 (by decide) (fun h_13 => ?_) (fun h_13 => ?_)
                    · refine lv_iload hx hb dX0_partOf_103 (lv_at hl 1 rfl) ?_
                      refine lv_iconst (v := 1) hx hb dX0_partOf_105 (by decide) ?_
                      refine lv_iadd hx hb dX0_partOf_106 ?_
                      exact W.iret (v := rr + 1) hx hb hr (fun t ht hW => ⟨_, rfl, by rw [hspec, ← hv, ml_C, if_pos h_12, pe_C, if_neg h_13], ht⟩) (fun _ h => by cases h) dX0_partOf_107
                    · refine lv_iload hx hb dX0_partOf_98 (lv_at hl 0 rfl) ?_
                      refine lv_goto (tgt := 107) hx hb dX0_partOf_100 (by decide) ?_
                      exact W.iret (v := nI K) hx hb hr (fun t ht hW => ⟨_, rfl, by rw [hspec, ← hv, ml_C, if_pos h_12, pe_C, if_pos h_13], ht⟩) (fun _ h => by cases h) dX0_partOf_107
                  · refine lv_iload hx hb dX0_partOf_63 (lv_at hl 1 rfl) ?_
                    refine lv_iload_n hx hb dX0_partOf_65 rfl (lv_at hl 2 rfl) ?_
                    refine lv_iload_n hx hb dX0_partOf_66 rfl (lv_at hl 5 rfl) ?_
                    refine lv_iload hx hb dX0_partOf_67 (lv_at hl 0 rfl) ?_
                    refine vp_callSi (va_Run.run (va_runS (As := [.int p0, .int (f_X0_yearOf p0 p1), .int (nI K)]) (rest := [.int rr]) ⟨hx, hb, hml, hown, hts⟩ (k_X0_monthDays l p0 (f_X0_yearOf p0 p1) (nI K)) (va_cwS 3 hts gX0_partOf_X0_monthDays rfl rfl rfl (by decide +kernel) ⟨Nat.le_of_ble_eq_true rfl, Nat.le_of_ble_eq_true rfl⟩) ⟨cm_blind, fun U hU hW => ⟨rfl, cm_warm hcm hU hW⟩⟩ rfl rfl hl.1 rfl (lv_room (Nat.le_of_ble_eq_true rfl)) dX0_partOf_69 ⟨Nat.le_of_ble_eq_true rfl, Nat.le_of_ble_eq_true rfl⟩)) (fun r_14 er_14 => ?_)
                    subst er_14
                    refine lv_icmp_lt (tgt := 93) hx hb dX0_partOf_72 (by decide) (fun h_15 => ?_) (fun h_15 => ?_)
                    · refine lv_iload_n hx hb dX0_partOf_93 rfl (lv_at hl 4 rfl) ?_
                      refine lv_iconst (v := 1) hx hb dX0_partOf_94 (by decide) ?_
                      refine lv_icmp_ne (tgt := 103) hx hb dX0_partOf_95 (by decide) (fun h_16 => ?_) (fun h_16 => ?_)
                      · refine lv_iload hx hb dX0_partOf_103 (lv_at hl 1 rfl) ?_
                        refine lv_iconst (v := 1) hx hb dX0_partOf_105 (by decide) ?_
                        refine lv_iadd hx hb dX0_partOf_106 ?_
                        exact W.iret (v := rr + 1) hx hb hr (fun t ht hW => ⟨_, rfl, by rw [hspec, ← hv, ml_C, if_neg h_12, if_pos h_15, pe_C, if_neg h_16], ht⟩) (fun _ h => by cases h) dX0_partOf_107
                      · refine lv_iload hx hb dX0_partOf_98 (lv_at hl 0 rfl) ?_
                        refine lv_goto (tgt := 107) hx hb dX0_partOf_100 (by decide) ?_
                        exact W.iret (v := nI K) hx hb hr (fun t ht hW => ⟨_, rfl, by rw [hspec, ← hv, ml_C, if_neg h_12, if_pos h_15, pe_C, if_pos h_16], ht⟩) (fun _ h => by cases h) dX0_partOf_107
                    · refine lv_iload hx hb dX0_partOf_75 (lv_at hl 1 rfl) ?_
                      refine lv_iload_n hx hb dX0_partOf_77 rfl (lv_at hl 2 rfl) ?_
                      refine lv_iload_n hx hb dX0_partOf_78 rfl (lv_at hl 5 rfl) ?_
                      refine lv_iload hx hb dX0_partOf_79 (lv_at hl 0 rfl) ?_
                      refine vp_callSi (va_Run.run (va_runS (As := [.int p0, .int (f_X0_yearOf p0 p1), .int (nI K)]) (rest := [.int rr]) ⟨hx, hb, hml, hown, hts⟩ (k_X0_monthDays l p0 (f_X0_yearOf p0 p1) (nI K)) (va_cwS 3 hts gX0_partOf_X0_monthDays rfl rfl rfl (by decide +kernel) ⟨Nat.le_of_ble_eq_true rfl, Nat.le_of_ble_eq_true rfl⟩) ⟨cm_blind, fun U hU hW => ⟨rfl, cm_warm hcm hU hW⟩⟩ rfl rfl hl.1 rfl (lv_room (Nat.le_of_ble_eq_true rfl)) dX0_partOf_81 ⟨Nat.le_of_ble_eq_true rfl, Nat.le_of_ble_eq_true rfl⟩)) (fun r_17 er_17 => ?_)
                      subst er_17
                      refine lv_isub hx hb dX0_partOf_84 ?_
                      refine lv_istore (lv' := [(4, .int (rr - (f_X0_monthDays p0 (f_X0_yearOf p0 p1) (nI K)))), (5, .int (nI K)), (0, .int p0), (1, .int p1), (2, .int p2), (3, .int (f_X0_yearOf p0 p1))]) hx hb dX0_partOf_85 hl (by decide) rfl (fun ls hl => ?_)
                      obtain ⟨x_18, ex_18⟩ : ∃ y : Int32, y = (nI K) + 1 := ⟨_, rfl⟩
                      refine lv_iinc (v := x_18) (lv' := [(5, .int x_18), (4, .int (rr - (f_X0_monthDays p0 (f_X0_yearOf p0 p1) (nI K)))), (0, .int p0), (1, .int p1), (2, .int p2), (3, .int (f_X0_yearOf p0 p1))]) hx hb dX0_partOf_87 hl (k := 1) rfl (by rw [ex_18]; rfl) (by decide) rfl (fun ls hl => ?_)
                      refine lv_goto (tgt := 54) hx hb dX0_partOf_90 (by decide) ?_
                      have e2 : x_18 = nI (K + 1) := by rw [ex_18, nI_1]
                      have hK1 := mo_K h_12 hK
                      rw [e2] at hl
                      exact ih _ (K + 1) (by omega) (by omega) (by rw [← hv, ml_C, if_neg h_12, if_neg h_15]) ls (lv_sub hl [0, 1, 2, 3, 4, 5] rfl)
              exact hloop 14 _ 1 (by omega) (by omega) rfl ls (lv_sub hl [0, 1, 3, 4, 5, 2] rfl)
            · refine lv_iload_n hx hb dX0_partOf_40 rfl (lv_at hl 0 rfl) ?_
              exact W.iret (v := f_X0_yearOf p0 p1) hx hb hr (fun t ht hW => ⟨_, rfl, by rw [f_X0_partOf, if_neg h_2, if_neg h_4, if_neg h_5, if_pos h_6, if_neg h_8, if_pos h_9], ht⟩) (fun _ h => by cases h) dX0_partOf_41
        · refine lv_iconst (v := (-1)) hx hb dX0_partOf_23 (by decide) ?_
          exact W.iret (v := (-1)) hx hb hr (fun t ht hW => ⟨_, rfl, by rw [f_X0_partOf, if_neg h_2, if_neg h_4, if_neg h_5, if_neg h_6], ht⟩) (fun _ h => by cases h) dX0_partOf_24

def f_X0_yearsBehind (p0 p1 p2 : Int32) : Int32 := if (f_X0_partOf p0 p1 0) = (-1) then (-1) else (if p2 < 0 then (-1) else (if p2 ≤ 100 then (if (f_X0_partOf p0 p1 1) = 2 then (if (f_X0_partOf p0 p1 2) ≤ (f_X0_monthDays p0 ((f_X0_partOf p0 p1 0) + p2) (f_X0_partOf p0 p1 1)) then (f_X0_dayOf p0 ((f_X0_partOf p0 p1 0) + p2) (f_X0_partOf p0 p1 1) (f_X0_partOf p0 p1 2)) else (f_X0_dayOf p0 ((f_X0_partOf p0 p1 0) + p2) 3 1)) else (f_X0_dayOf p0 ((f_X0_partOf p0 p1 0) + p2) (f_X0_partOf p0 p1 1) (f_X0_partOf p0 p1 2))) else (-1)))
set_option maxHeartbeats 4000000 in
set_option maxRecDepth 100000 in
theorem k_X0_yearsBehind (l : Launch) (p0 p1 p2 : Int32) : Met l yX0_yearsBehind wsX0_yearsBehind ({ frames := 4, cells := 0, slots := 0, locals := 91 }) (va_Pc [.int p0, .int p1, .int p2] cm_ok) (vp_Si (fun r => r = f_X0_yearsBehind p0 p1 p2)) 0 0 (fun _ => False) := by
  refine Met.ofW (cc := cX0_yearsBehind) (maxL := 6) (ret := (some .int)) (by decide) rfl ?_
  intro p e s m args below meth c s₁ B hml hv
  obtain ⟨rfl, hcm⟩ := hv
  have hx := B.exec
  have hb := B.bytes
  have hr := B.returns
  have hts := atoms_spec (ws := wsX0_yearsBehind) B.pre
  have hown : s.vm.findClass RX0 = some m.cls := findClass_of_methodNamed B.named
  have hlocks := B.notSynchronized
  have hl := lv_entry ([.int p0, .int p1, .int p2]) (n := 6) (Nat.le_of_ble_eq_true rfl)
  rw [lg_entry_eq]
  generalize (lg_sl ([.int p0, .int p1, .int p2]) ++ List.replicate (6 - (lg_sl ([.int p0, .int p1, .int p2])).length) Slot.unset).toArray = ls at hl ⊢
  have hl : lv_has ls 6 [(0, .int p0), (1, .int p1), (2, .int p2)] := hl
  refine lv_iload_n hx hb dX0_yearsBehind_0 rfl (lv_at hl 0 rfl) ?_
  refine lv_iload_n hx hb dX0_yearsBehind_1 rfl (lv_at hl 1 rfl) ?_
  refine lv_iconst (v := 0) hx hb dX0_yearsBehind_2 (by decide) ?_
  refine vp_callSi (va_Run.run (va_runS (As := [.int p0, .int p1, .int 0]) (rest := []) ⟨hx, hb, hml, hown, hts⟩ (k_X0_partOf l p0 p1 0) (va_cwS 3 hts gX0_yearsBehind_X0_partOf rfl rfl rfl (by decide +kernel) ⟨Nat.le_of_ble_eq_true rfl, Nat.le_of_ble_eq_true rfl⟩) ⟨cm_blind, fun U hU hW => ⟨rfl, cm_warm hcm hU hW⟩⟩ rfl rfl hl.1 rfl (lv_room (Nat.le_of_ble_eq_true rfl)) dX0_yearsBehind_3 ⟨Nat.le_of_ble_eq_true rfl, Nat.le_of_ble_eq_true rfl⟩)) (fun r_1 er_1 => ?_)
  subst er_1
  refine lv_istore_n (lv' := [(3, .int (f_X0_partOf p0 p1 0)), (0, .int p0), (1, .int p1), (2, .int p2)]) hx hb dX0_yearsBehind_6 rfl hl (by decide) rfl (fun ls hl => ?_)
  refine lv_iload_n hx hb dX0_yearsBehind_7 rfl (lv_at hl 0 rfl) ?_
  refine lv_iconst (v := (-1)) hx hb dX0_yearsBehind_8 (by decide) ?_
  refine lv_icmp_eq (tgt := 22) hx hb dX0_yearsBehind_9 (by decide) (fun h_2 => ?_) (fun h_2 => ?_)
  · refine lv_iconst (v := (-1)) hx hb dX0_yearsBehind_22 (by decide) ?_
    exact W.iret (v := (-1)) hx hb hr (fun t ht hW => ⟨_, rfl, by rw [f_X0_yearsBehind, if_pos h_2], ht⟩) (fun _ h => by cases h) dX0_yearsBehind_23
  · refine lv_iload_n hx hb dX0_yearsBehind_12 rfl (lv_at hl 3 rfl) ?_
    refine lv_if_lt (tgt := 22) hx hb dX0_yearsBehind_13 (by decide) (fun h_3 => ?_) (fun h_3 => ?_)
    · refine lv_iconst (v := (-1)) hx hb dX0_yearsBehind_22 (by decide) ?_
      exact W.iret (v := (-1)) hx hb hr (fun t ht hW => ⟨_, rfl, by rw [f_X0_yearsBehind, if_neg h_2, if_pos h_3], ht⟩) (fun _ h => by cases h) dX0_yearsBehind_23
    · refine lv_iload_n hx hb dX0_yearsBehind_16 rfl (lv_at hl 3 rfl) ?_
      refine lv_bipush (v := 100) hx hb dX0_yearsBehind_17 (by decide) ?_
      refine lv_icmp_le (tgt := 24) hx hb dX0_yearsBehind_19 (by decide) (fun h_4 => ?_) (fun h_4 => ?_)
      · refine lv_iload_n hx hb dX0_yearsBehind_24 rfl (lv_at hl 1 rfl) ?_
        refine lv_iload_n hx hb dX0_yearsBehind_25 rfl (lv_at hl 2 rfl) ?_
        refine lv_iconst (v := 1) hx hb dX0_yearsBehind_26 (by decide) ?_
        refine vp_callSi (va_Run.run (va_runS (As := [.int p0, .int p1, .int 1]) (rest := []) ⟨hx, hb, hml, hown, hts⟩ (k_X0_partOf l p0 p1 1) (va_cwS 3 hts gX0_yearsBehind_X0_partOf rfl rfl rfl (by decide +kernel) ⟨Nat.le_of_ble_eq_true rfl, Nat.le_of_ble_eq_true rfl⟩) ⟨cm_blind, fun U hU hW => ⟨rfl, cm_warm hcm hU hW⟩⟩ rfl rfl hl.1 rfl (lv_room (Nat.le_of_ble_eq_true rfl)) dX0_yearsBehind_27 ⟨Nat.le_of_ble_eq_true rfl, Nat.le_of_ble_eq_true rfl⟩)) (fun r_5 er_5 => ?_)
        subst er_5
        refine lv_istore (lv' := [(4, .int (f_X0_partOf p0 p1 1)), (3, .int (f_X0_partOf p0 p1 0)), (0, .int p0), (1, .int p1), (2, .int p2)]) hx hb dX0_yearsBehind_30 hl (by decide) rfl (fun ls hl => ?_)
        refine lv_iload_n hx hb dX0_yearsBehind_32 rfl (lv_at hl 2 rfl) ?_
        refine lv_iload_n hx hb dX0_yearsBehind_33 rfl (lv_at hl 3 rfl) ?_
        refine lv_iconst (v := 2) hx hb dX0_yearsBehind_34 (by decide) ?_
        refine vp_callSi (va_Run.run (va_runS (As := [.int p0, .int p1, .int 2]) (rest := []) ⟨hx, hb, hml, hown, hts⟩ (k_X0_partOf l p0 p1 2) (va_cwS 3 hts gX0_yearsBehind_X0_partOf rfl rfl rfl (by decide +kernel) ⟨Nat.le_of_ble_eq_true rfl, Nat.le_of_ble_eq_true rfl⟩) ⟨cm_blind, fun U hU hW => ⟨rfl, cm_warm hcm hU hW⟩⟩ rfl rfl hl.1 rfl (lv_room (Nat.le_of_ble_eq_true rfl)) dX0_yearsBehind_35 ⟨Nat.le_of_ble_eq_true rfl, Nat.le_of_ble_eq_true rfl⟩)) (fun r_6 er_6 => ?_)
        subst er_6
        refine lv_istore (lv' := [(5, .int (f_X0_partOf p0 p1 2)), (4, .int (f_X0_partOf p0 p1 1)), (3, .int (f_X0_partOf p0 p1 0)), (0, .int p0), (1, .int p1), (2, .int p2)]) hx hb dX0_yearsBehind_38 hl (by decide) rfl (fun ls hl => ?_)
        refine lv_iload hx hb dX0_yearsBehind_40 (lv_at hl 1 rfl) ?_
        refine lv_iconst (v := 2) hx hb dX0_yearsBehind_42 (by decide) ?_
        refine lv_icmp_ne (tgt := 70) hx hb dX0_yearsBehind_43 (by decide) (fun h_7 => ?_) (fun h_7 => ?_)
        · refine lv_iload_n hx hb dX0_yearsBehind_70 rfl (lv_at hl 3 rfl) ?_
          refine lv_iload_n hx hb dX0_yearsBehind_71 rfl (lv_at hl 2 rfl) ?_
          refine lv_iload_n hx hb dX0_yearsBehind_72 rfl (lv_at hl 5 rfl) ?_
          refine lv_iadd hx hb dX0_yearsBehind_73 ?_
          refine lv_iload hx hb dX0_yearsBehind_74 (lv_at hl 1 rfl) ?_
          refine lv_iload hx hb dX0_yearsBehind_76 (lv_at hl 0 rfl) ?_
          refine vp_callSi (va_Run.run (va_runS (As := [.int p0, .int ((f_X0_partOf p0 p1 0) + p2), .int (f_X0_partOf p0 p1 1), .int (f_X0_partOf p0 p1 2)]) (rest := []) ⟨hx, hb, hml, hown, hts⟩ (k_X0_dayOf l p0 ((f_X0_partOf p0 p1 0) + p2) (f_X0_partOf p0 p1 1) (f_X0_partOf p0 p1 2)) (va_cwS 4 hts gX0_yearsBehind_X0_dayOf rfl rfl rfl (by decide +kernel) ⟨Nat.le_of_ble_eq_true rfl, Nat.le_of_ble_eq_true rfl⟩) ⟨cm_blind, fun U hU hW => ⟨rfl, cm_warm hcm hU hW⟩⟩ rfl rfl hl.1 rfl (lv_room (Nat.le_of_ble_eq_true rfl)) dX0_yearsBehind_78 ⟨Nat.le_of_ble_eq_true rfl, Nat.le_of_ble_eq_true rfl⟩)) (fun r_8 er_8 => ?_)
          subst er_8
          exact W.iret (v := f_X0_dayOf p0 ((f_X0_partOf p0 p1 0) + p2) (f_X0_partOf p0 p1 1) (f_X0_partOf p0 p1 2)) hx hb hr (fun t ht hW => ⟨_, rfl, by rw [f_X0_yearsBehind, if_neg h_2, if_neg h_3, if_pos h_4, if_neg h_7], ht⟩) (fun _ h => by cases h) dX0_yearsBehind_81
        · refine lv_iload hx hb dX0_yearsBehind_46 (lv_at hl 0 rfl) ?_
          refine lv_iload_n hx hb dX0_yearsBehind_48 rfl (lv_at hl 3 rfl) ?_
          refine lv_iload_n hx hb dX0_yearsBehind_49 rfl (lv_at hl 2 rfl) ?_
          refine lv_iload_n hx hb dX0_yearsBehind_50 rfl (lv_at hl 5 rfl) ?_
          refine lv_iadd hx hb dX0_yearsBehind_51 ?_
          refine lv_iload hx hb dX0_yearsBehind_52 (lv_at hl 1 rfl) ?_
          refine vp_callSi (va_Run.run (va_runS (As := [.int p0, .int ((f_X0_partOf p0 p1 0) + p2), .int (f_X0_partOf p0 p1 1)]) (rest := [.int (f_X0_partOf p0 p1 2)]) ⟨hx, hb, hml, hown, hts⟩ (k_X0_monthDays l p0 ((f_X0_partOf p0 p1 0) + p2) (f_X0_partOf p0 p1 1)) (va_cwS 3 hts gX0_yearsBehind_X0_monthDays rfl rfl rfl (by decide +kernel) ⟨Nat.le_of_ble_eq_true rfl, Nat.le_of_ble_eq_true rfl⟩) ⟨cm_blind, fun U hU hW => ⟨rfl, cm_warm hcm hU hW⟩⟩ rfl rfl hl.1 rfl (lv_room (Nat.le_of_ble_eq_true rfl)) dX0_yearsBehind_54 ⟨Nat.le_of_ble_eq_true rfl, Nat.le_of_ble_eq_true rfl⟩)) (fun r_9 er_9 => ?_)
          subst er_9
          refine lv_icmp_le (tgt := 70) hx hb dX0_yearsBehind_57 (by decide) (fun h_10 => ?_) (fun h_10 => ?_)
          · refine lv_iload_n hx hb dX0_yearsBehind_70 rfl (lv_at hl 3 rfl) ?_
            refine lv_iload_n hx hb dX0_yearsBehind_71 rfl (lv_at hl 2 rfl) ?_
            refine lv_iload_n hx hb dX0_yearsBehind_72 rfl (lv_at hl 5 rfl) ?_
            refine lv_iadd hx hb dX0_yearsBehind_73 ?_
            refine lv_iload hx hb dX0_yearsBehind_74 (lv_at hl 1 rfl) ?_
            refine lv_iload hx hb dX0_yearsBehind_76 (lv_at hl 0 rfl) ?_
            refine vp_callSi (va_Run.run (va_runS (As := [.int p0, .int ((f_X0_partOf p0 p1 0) + p2), .int (f_X0_partOf p0 p1 1), .int (f_X0_partOf p0 p1 2)]) (rest := []) ⟨hx, hb, hml, hown, hts⟩ (k_X0_dayOf l p0 ((f_X0_partOf p0 p1 0) + p2) (f_X0_partOf p0 p1 1) (f_X0_partOf p0 p1 2)) (va_cwS 4 hts gX0_yearsBehind_X0_dayOf rfl rfl rfl (by decide +kernel) ⟨Nat.le_of_ble_eq_true rfl, Nat.le_of_ble_eq_true rfl⟩) ⟨cm_blind, fun U hU hW => ⟨rfl, cm_warm hcm hU hW⟩⟩ rfl rfl hl.1 rfl (lv_room (Nat.le_of_ble_eq_true rfl)) dX0_yearsBehind_78 ⟨Nat.le_of_ble_eq_true rfl, Nat.le_of_ble_eq_true rfl⟩)) (fun r_11 er_11 => ?_)
            subst er_11
            exact W.iret (v := f_X0_dayOf p0 ((f_X0_partOf p0 p1 0) + p2) (f_X0_partOf p0 p1 1) (f_X0_partOf p0 p1 2)) hx hb hr (fun t ht hW => ⟨_, rfl, by rw [f_X0_yearsBehind, if_neg h_2, if_neg h_3, if_pos h_4, if_pos h_7, if_pos h_10], ht⟩) (fun _ h => by cases h) dX0_yearsBehind_81
          · refine lv_iload_n hx hb dX0_yearsBehind_60 rfl (lv_at hl 3 rfl) ?_
            refine lv_iload_n hx hb dX0_yearsBehind_61 rfl (lv_at hl 2 rfl) ?_
            refine lv_iload_n hx hb dX0_yearsBehind_62 rfl (lv_at hl 5 rfl) ?_
            refine lv_iadd hx hb dX0_yearsBehind_63 ?_
            refine lv_iconst (v := 3) hx hb dX0_yearsBehind_64 (by decide) ?_
            refine lv_iconst (v := 1) hx hb dX0_yearsBehind_65 (by decide) ?_
            refine vp_callSi (va_Run.run (va_runS (As := [.int p0, .int ((f_X0_partOf p0 p1 0) + p2), .int 3, .int 1]) (rest := []) ⟨hx, hb, hml, hown, hts⟩ (k_X0_dayOf l p0 ((f_X0_partOf p0 p1 0) + p2) 3 1) (va_cwS 4 hts gX0_yearsBehind_X0_dayOf rfl rfl rfl (by decide +kernel) ⟨Nat.le_of_ble_eq_true rfl, Nat.le_of_ble_eq_true rfl⟩) ⟨cm_blind, fun U hU hW => ⟨rfl, cm_warm hcm hU hW⟩⟩ rfl rfl hl.1 rfl (lv_room (Nat.le_of_ble_eq_true rfl)) dX0_yearsBehind_66 ⟨Nat.le_of_ble_eq_true rfl, Nat.le_of_ble_eq_true rfl⟩)) (fun r_12 er_12 => ?_)
            subst er_12
            exact W.iret (v := f_X0_dayOf p0 ((f_X0_partOf p0 p1 0) + p2) 3 1) hx hb hr (fun t ht hW => ⟨_, rfl, by rw [f_X0_yearsBehind, if_neg h_2, if_neg h_3, if_pos h_4, if_pos h_7, if_neg h_10], ht⟩) (fun _ h => by cases h) dX0_yearsBehind_69
      · refine lv_iconst (v := (-1)) hx hb dX0_yearsBehind_22 (by decide) ?_
        exact W.iret (v := (-1)) hx hb hr (fun t ht hW => ⟨_, rfl, by rw [f_X0_yearsBehind, if_neg h_2, if_neg h_3, if_neg h_4], ht⟩) (fun _ h => by cases h) dX0_yearsBehind_23

def f_X5_day (p0 p1 p2 p3 : Int32) : Int32 := f_X0_dayOf p0 p1 p2 p3
set_option maxHeartbeats 4000000 in
set_option maxRecDepth 100000 in
theorem k_X5_day (l : Launch) (h0 : Nat) (p0 p1 p2 p3 : Int32) : Met l yX5_day wsX5_day ({ frames := 4, cells := 0, slots := 0, locals := 91 }) (va_Pc [.ref h0, .int p0, .int p1, .int p2, .int p3] cm_ok) (vp_Si (fun r => r = f_X5_day p0 p1 p2 p3)) 0 0 (fun _ => False) := by
  refine Met.ofW (cc := cX5_day) (maxL := 5) (ret := (some .int)) (by decide) rfl ?_
  intro p e s m args below meth c s₁ B hml hv
  obtain ⟨rfl, hcm⟩ := hv
  have hx := B.exec
  have hb := B.bytes
  have hr := B.returns
  have hts := atoms_spec (ws := wsX5_day) B.pre
  have hown : s.vm.findClass RX5 = some m.cls := findClass_of_methodNamed B.named
  have hlocks := B.notSynchronized
  have hl := lv_entry ([.ref h0, .int p0, .int p1, .int p2, .int p3]) (n := 5) (Nat.le_of_ble_eq_true rfl)
  rw [lg_entry_eq]
  generalize (lg_sl ([.ref h0, .int p0, .int p1, .int p2, .int p3]) ++ List.replicate (5 - (lg_sl ([.ref h0, .int p0, .int p1, .int p2, .int p3])).length) Slot.unset).toArray = ls at hl ⊢
  have hl : lv_has ls 5 [(0, .ref h0), (1, .int p0), (2, .int p1), (3, .int p2), (4, .int p3)] := hl
  refine lv_iload_n hx hb dX5_day_0 rfl (lv_at hl 1 rfl) ?_
  refine lv_iload_n hx hb dX5_day_1 rfl (lv_at hl 2 rfl) ?_
  refine lv_iload_n hx hb dX5_day_2 rfl (lv_at hl 3 rfl) ?_
  refine lv_iload hx hb dX5_day_3 (lv_at hl 4 rfl) ?_
  refine vp_callSi (va_Run.run (va_runS (As := [.int p0, .int p1, .int p2, .int p3]) (rest := []) ⟨hx, hb, hml, hown, hts⟩ (k_X0_dayOf l p0 p1 p2 p3) (va_cwS 4 hts gX5_day_X0_dayOf rfl rfl rfl (by decide +kernel) ⟨Nat.le_of_ble_eq_true rfl, Nat.le_of_ble_eq_true rfl⟩) ⟨cm_blind, fun U hU hW => ⟨rfl, cm_warm hcm hU hW⟩⟩ rfl rfl hl.1 rfl (lv_room (Nat.le_of_ble_eq_true rfl)) dX5_day_5 ⟨Nat.le_of_ble_eq_true rfl, Nat.le_of_ble_eq_true rfl⟩)) (fun r_1 er_1 => ?_)
  subst er_1
  exact W.iret (v := f_X0_dayOf p0 p1 p2 p3) hx hb hr (fun t ht hW => ⟨_, rfl, by rw [f_X5_day], ht⟩) (fun _ h => by cases h) dX5_day_8

def f_X5_date (p0 p1 p2 : Int32) : Int32 := f_X0_partOf p0 p1 p2
set_option maxHeartbeats 4000000 in
set_option maxRecDepth 100000 in
theorem k_X5_date (l : Launch) (h0 : Nat) (p0 p1 p2 : Int32) : Met l yX5_date wsX5_date ({ frames := 3, cells := 0, slots := 0, locals := 70 }) (va_Pc [.ref h0, .int p0, .int p1, .int p2] cm_ok) (vp_Si (fun r => r = f_X5_date p0 p1 p2)) 0 0 (fun _ => False) := by
  refine Met.ofW (cc := cX5_date) (maxL := 4) (ret := (some .int)) (by decide) rfl ?_
  intro p e s m args below meth c s₁ B hml hv
  obtain ⟨rfl, hcm⟩ := hv
  have hx := B.exec
  have hb := B.bytes
  have hr := B.returns
  have hts := atoms_spec (ws := wsX5_date) B.pre
  have hown : s.vm.findClass RX5 = some m.cls := findClass_of_methodNamed B.named
  have hlocks := B.notSynchronized
  have hl := lv_entry ([.ref h0, .int p0, .int p1, .int p2]) (n := 4) (Nat.le_of_ble_eq_true rfl)
  rw [lg_entry_eq]
  generalize (lg_sl ([.ref h0, .int p0, .int p1, .int p2]) ++ List.replicate (4 - (lg_sl ([.ref h0, .int p0, .int p1, .int p2])).length) Slot.unset).toArray = ls at hl ⊢
  have hl : lv_has ls 4 [(0, .ref h0), (1, .int p0), (2, .int p1), (3, .int p2)] := hl
  refine lv_iload_n hx hb dX5_date_0 rfl (lv_at hl 1 rfl) ?_
  refine lv_iload_n hx hb dX5_date_1 rfl (lv_at hl 2 rfl) ?_
  refine lv_iload_n hx hb dX5_date_2 rfl (lv_at hl 3 rfl) ?_
  refine vp_callSi (va_Run.run (va_runS (As := [.int p0, .int p1, .int p2]) (rest := []) ⟨hx, hb, hml, hown, hts⟩ (k_X0_partOf l p0 p1 p2) (va_cwS 3 hts gX5_date_X0_partOf rfl rfl rfl (by decide +kernel) ⟨Nat.le_of_ble_eq_true rfl, Nat.le_of_ble_eq_true rfl⟩) ⟨cm_blind, fun U hU hW => ⟨rfl, cm_warm hcm hU hW⟩⟩ rfl rfl hl.1 rfl (lv_room (Nat.le_of_ble_eq_true rfl)) dX5_date_3 ⟨Nat.le_of_ble_eq_true rfl, Nat.le_of_ble_eq_true rfl⟩)) (fun r_1 er_1 => ?_)
  subst er_1
  exact W.iret (v := f_X0_partOf p0 p1 p2) hx hb hr (fun t ht hW => ⟨_, rfl, by rw [f_X5_date], ht⟩) (fun _ h => by cases h) dX5_date_6

def f_X5_years (p0 p1 p2 : Int32) : Int32 := f_X0_yearsBehind p0 p1 p2
set_option maxHeartbeats 4000000 in
set_option maxRecDepth 100000 in
theorem k_X5_years (l : Launch) (h0 : Nat) (p0 p1 p2 : Int32) : Met l yX5_years wsX5_years ({ frames := 5, cells := 0, slots := 0, locals := 116 }) (va_Pc [.ref h0, .int p0, .int p1, .int p2] cm_ok) (vp_Si (fun r => r = f_X5_years p0 p1 p2)) 0 0 (fun _ => False) := by
  refine Met.ofW (cc := cX5_years) (maxL := 4) (ret := (some .int)) (by decide) rfl ?_
  intro p e s m args below meth c s₁ B hml hv
  obtain ⟨rfl, hcm⟩ := hv
  have hx := B.exec
  have hb := B.bytes
  have hr := B.returns
  have hts := atoms_spec (ws := wsX5_years) B.pre
  have hown : s.vm.findClass RX5 = some m.cls := findClass_of_methodNamed B.named
  have hlocks := B.notSynchronized
  have hl := lv_entry ([.ref h0, .int p0, .int p1, .int p2]) (n := 4) (Nat.le_of_ble_eq_true rfl)
  rw [lg_entry_eq]
  generalize (lg_sl ([.ref h0, .int p0, .int p1, .int p2]) ++ List.replicate (4 - (lg_sl ([.ref h0, .int p0, .int p1, .int p2])).length) Slot.unset).toArray = ls at hl ⊢
  have hl : lv_has ls 4 [(0, .ref h0), (1, .int p0), (2, .int p1), (3, .int p2)] := hl
  refine lv_iload_n hx hb dX5_years_0 rfl (lv_at hl 1 rfl) ?_
  refine lv_iload_n hx hb dX5_years_1 rfl (lv_at hl 2 rfl) ?_
  refine lv_iload_n hx hb dX5_years_2 rfl (lv_at hl 3 rfl) ?_
  refine vp_callSi (va_Run.run (va_runS (As := [.int p0, .int p1, .int p2]) (rest := []) ⟨hx, hb, hml, hown, hts⟩ (k_X0_yearsBehind l p0 p1 p2) (va_cwS 3 hts gX5_years_X0_yearsBehind rfl rfl rfl (by decide +kernel) ⟨Nat.le_of_ble_eq_true rfl, Nat.le_of_ble_eq_true rfl⟩) ⟨cm_blind, fun U hU hW => ⟨rfl, cm_warm hcm hU hW⟩⟩ rfl rfl hl.1 rfl (lv_room (Nat.le_of_ble_eq_true rfl)) dX5_years_3 ⟨Nat.le_of_ble_eq_true rfl, Nat.le_of_ble_eq_true rfl⟩)) (fun r_1 er_1 => ?_)
  subst er_1
  exact W.iret (v := f_X0_yearsBehind p0 p1 p2) hx hb hr (fun t ht hW => ⟨_, rfl, by rw [f_X5_years], ht⟩) (fun _ h => by cases h) dX5_years_6

def f_X5_isRowOfDays (p0 p1 : Int32) : Int32 := if (f_X5_isDay p0) = 0 then 0 else (if (f_X5_isDay p1) = 0 then 0 else (if p1 < p0 then 0 else 1))
set_option maxHeartbeats 4000000 in
set_option maxRecDepth 100000 in
theorem k_X5_isRowOfDays (l : Launch) (p0 p1 : Int32) : Met l yX5_isRowOfDays wsX5_isRowOfDays ({ frames := 1, cells := 0, slots := 0, locals := 20 }) (va_Pc [.int p0, .int p1] cm_ok) (vp_Si (fun r => r = f_X5_isRowOfDays p0 p1)) 0 0 (fun _ => False) := by
  refine Met.ofW (cc := cX5_isRowOfDays) (maxL := 2) (ret := (some .boolean)) (by decide) rfl ?_
  intro p e s m args below meth c s₁ B hml hv
  obtain ⟨rfl, hcm⟩ := hv
  have hx := B.exec
  have hb := B.bytes
  have hr := B.returns
  have hts := atoms_spec (ws := wsX5_isRowOfDays) B.pre
  have hown : s.vm.findClass RX5 = some m.cls := findClass_of_methodNamed B.named
  have hlocks := B.notSynchronized
  have hl := lv_entry ([.int p0, .int p1]) (n := 2) (Nat.le_of_ble_eq_true rfl)
  rw [lg_entry_eq]
  generalize (lg_sl ([.int p0, .int p1]) ++ List.replicate (2 - (lg_sl ([.int p0, .int p1])).length) Slot.unset).toArray = ls at hl ⊢
  have hl : lv_has ls 2 [(0, .int p0), (1, .int p1)] := hl
  refine lv_iload_n hx hb dX5_isRowOfDays_0 rfl (lv_at hl 0 rfl) ?_
  refine vp_callSi (va_Run.run (va_runS (As := [.int p0]) (rest := []) ⟨hx, hb, hml, hown, hts⟩ (k_X5_isDay l p0) (va_cwS 1 hts gX5_isRowOfDays_X5_isDay rfl rfl rfl (by decide +kernel) ⟨Nat.le_of_ble_eq_true rfl, Nat.le_of_ble_eq_true rfl⟩) ⟨cm_blind, fun U hU hW => ⟨rfl, cm_warm hcm hU hW⟩⟩ rfl rfl hl.1 rfl (lv_room (Nat.le_of_ble_eq_true rfl)) dX5_isRowOfDays_1 ⟨Nat.le_of_ble_eq_true rfl, Nat.le_of_ble_eq_true rfl⟩)) (fun r_1 er_1 => ?_)
  subst er_1
  refine lv_if_eq (tgt := 23) hx hb dX5_isRowOfDays_4 (by decide) (fun h_2 => ?_) (fun h_2 => ?_)
  · refine lv_iconst (v := 0) hx hb dX5_isRowOfDays_23 (by decide) ?_
    exact W.zret (v := 0) hx hb hr rfl (fun t ht hW => ⟨_, rfl, by rw [f_X5_isRowOfDays, if_pos h_2], ht⟩) (fun _ h => by cases h) dX5_isRowOfDays_24
  · refine lv_iload_n hx hb dX5_isRowOfDays_7 rfl (lv_at hl 1 rfl) ?_
    refine vp_callSi (va_Run.run (va_runS (As := [.int p1]) (rest := []) ⟨hx, hb, hml, hown, hts⟩ (k_X5_isDay l p1) (va_cwS 1 hts gX5_isRowOfDays_X5_isDay rfl rfl rfl (by decide +kernel) ⟨Nat.le_of_ble_eq_true rfl, Nat.le_of_ble_eq_true rfl⟩) ⟨cm_blind, fun U hU hW => ⟨rfl, cm_warm hcm hU hW⟩⟩ rfl rfl hl.1 rfl (lv_room (Nat.le_of_ble_eq_true rfl)) dX5_isRowOfDays_8 ⟨Nat.le_of_ble_eq_true rfl, Nat.le_of_ble_eq_true rfl⟩)) (fun r_3 er_3 => ?_)
    subst er_3
    refine lv_if_eq (tgt := 23) hx hb dX5_isRowOfDays_11 (by decide) (fun h_4 => ?_) (fun h_4 => ?_)
    · refine lv_iconst (v := 0) hx hb dX5_isRowOfDays_23 (by decide) ?_
      exact W.zret (v := 0) hx hb hr rfl (fun t ht hW => ⟨_, rfl, by rw [f_X5_isRowOfDays, if_neg h_2, if_pos h_4], ht⟩) (fun _ h => by cases h) dX5_isRowOfDays_24
    · refine lv_iload_n hx hb dX5_isRowOfDays_14 rfl (lv_at hl 0 rfl) ?_
      refine lv_iload_n hx hb dX5_isRowOfDays_15 rfl (lv_at hl 1 rfl) ?_
      refine lv_icmp_gt (tgt := 23) hx hb dX5_isRowOfDays_16 (by decide) (fun h_5 => ?_) (fun h_5 => ?_)
      · refine lv_iconst (v := 0) hx hb dX5_isRowOfDays_23 (by decide) ?_
        exact W.zret (v := 0) hx hb hr rfl (fun t ht hW => ⟨_, rfl, by rw [f_X5_isRowOfDays, if_neg h_2, if_neg h_4, if_pos h_5], ht⟩) (fun _ h => by cases h) dX5_isRowOfDays_24
      · refine lv_iconst (v := 1) hx hb dX5_isRowOfDays_19 (by decide) ?_
        refine lv_goto (tgt := 24) hx hb dX5_isRowOfDays_20 (by decide) ?_
        exact W.zret (v := 1) hx hb hr rfl (fun t ht hW => ⟨_, rfl, by rw [f_X5_isRowOfDays, if_neg h_2, if_neg h_4, if_neg h_5], ht⟩) (fun _ h => by cases h) dX5_isRowOfDays_24
end
